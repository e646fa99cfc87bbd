theorem fbN_0 {sg : Nat → Nat} {sz i : Nat} : fbN sg sz i = 0 ↔ fk sg sz i = nD (sg i) := by
  unfold fbN
  split
  · exact ⟨fun _ => by assumption, fun _ => rfl⟩
  · exact ⟨fun z => by omega, fun z => absurd z (by assumption)⟩
theorem fbN_le {sg : Nat → Nat} {sz i : Nat} : fbN sg sz i ≤ i + 8 := by
  have h1 := fk_le sg sz i
  have h2 := nD_le (sg i)
  unfold fbN
  split <;> omega
theorem if01 {p : Prop} [Decidable p] : (if p then 0 else 1) = 0 ↔ p := by
  by_cases h : p
  · rw [if_pos h]; exact ⟨fun _ => h, fun _ => rfl⟩
  · rw [if_neg h]; exact ⟨fun z => absurd z (by decide), fun z => absurd z h⟩
theorem flt0_ok {sg : Nat → Nat} {sz c : Nat} (h0 : flt sg sz = 0) (hpr : ∀ j, j < c → pos sg j < sz ∧ okC sg sz (pos sg j)) (hp : pos sg c < sz) : okC sg sz (pos sg c) := by
  by_cases hok : okC sg sz (pos sg c)
  · exact hok
  · have hn := nC_at (Or.inr hok) hpr
    have hh : ¬ (sz = 0 ∨ sg 0 ≠ 66) := fun z => by rw [flt_0 z] at h0; cases h0
    by_cases hl : isC (sg (pos sg c))
    · rw [flt_bad hh hn hp hl] at h0; omega
    · rw [flt_no hh hn hp hl] at h0; omega
set_option maxRecDepth 100000 in
set_option maxHeartbeats 1000000 in
theorem c_X2_firstFault__z {l : Launch} {E : Ev} {b6 c6 sz : Nat} {tx : Nat → Int32} {sg : Nat → Nat} (hT : TxR sg sz tx) (hz : sz = 0) : Cr l E yX2_firstFault cX2_firstFault 3 (some FieldType.int) 6 130 [.ref b6] [(b6, .inr (2, [.ref c6, .int (nI sz)])), (c6, .inl (eI E, 120, .inl tx))] (some (.int (mI (flt sg sz)))) := by
  have hTz := hT.1
  refine ct_of (by decide +kernel) (Nat.le_of_ble_eq_true rfl) (fun ω C RT => ?_)
  show ω [(b6, .inr (2, [.ref c6, .int (nI sz)])), (c6, .inl (eI E, 120, .inl tx))] [(0, .ref b6)] [] 0
  refine r_aload_n C (i := 0) 0 dX2_firstFault_0 rfl rfl ?_
  refine r_iconst C dX2_firstFault_1 ki_0 ?_
  refine r_readV (rest := []) C (c_X2_signAt__o (b6 := b6) (c6 := c6) (sz := sz) (tx := tx) (sg := sg) (i := 0) (hT := hT) (hi := (by omega)) (hi2 := (by omega))) lk_X2_signAt w_1_180 [0, 1] rfl dX2_firstFault_2 rfl rfl rfl rfl ⟨by decide, by decide⟩ (Nat.le_of_ble_eq_true rfl) (st' := [.int (mI 0)]) rfl ?_
  refine r_bipush C dX2_firstFault_5 kb_66 ?_
  refine r_icmp_eqF C (tgt := 12) dX2_firstFault_7 (by decide) (fun z => ((by omega) : ¬ (0 = 66 + 1)) ((c_eqMN (by omega) (by omega)).mp z)) ?_
  refine r_iconst C dX2_firstFault_10 ki_0 ?_
  exact RT.1 _ _ _ _ _ dX2_firstFault_11 rfl rfl (rd_i ((mI_s 0).symm.trans (congrArg mI (flt_0 (Or.inl hz)).symm))) rfl
set_option maxRecDepth 100000 in
set_option maxHeartbeats 1000000 in
theorem c_X2_firstFault__n {l : Launch} {E : Ev} {b6 c6 sz : Nat} {tx : Nat → Int32} {sg : Nat → Nat} (hT : TxR sg sz tx) (hz : 0 < sz) : Cr l E yX2_firstFault cX2_firstFault 3 (some FieldType.int) 6 130 [.ref b6] [(b6, .inr (2, [.ref c6, .int (nI sz)])), (c6, .inl (eI E, 120, .inl tx))] (some (.int (mI (flt sg sz)))) := by
  have hTz := hT.1
  refine ct_of (by decide +kernel) (Nat.le_of_ble_eq_true rfl) (fun ω C RT => ?_)
  show ω [(b6, .inr (2, [.ref c6, .int (nI sz)])), (c6, .inl (eI E, 120, .inl tx))] [(0, .ref b6)] [] 0
  refine r_aload_n C (i := 0) 0 dX2_firstFault_0 rfl rfl ?_
  refine r_iconst C dX2_firstFault_1 ki_0 ?_
  refine r_readV (rest := []) C (c_X2_signAt (b6 := b6) (c6 := c6) (sz := sz) (tx := tx) (sg := sg) (i := 0) (hT := hT) (hi := (by omega))) lk_X2_signAt w_1_180 [0, 1] rfl dX2_firstFault_2 rfl rfl rfl rfl ⟨by decide, by decide⟩ (Nat.le_of_ble_eq_true rfl) (st' := [.int (nI (sg 0))]) rfl ?_
  have h256 := (hT.2 0 (by omega)).2
  refine r_bipush C dX2_firstFault_5 kb_66 ?_
  refine r_icmp_eq C (c9 := sg 0 = 66) 12 dX2_firstFault_7 (by decide) (c_eqNN (by omega) (by omega)) (fun h7_1 => ?_) (fun h7_1 => ?_)
  · have hh : ¬ (sz = 0 ∨ sg 0 ≠ 66) := by omega
    refine r_iconst C dX2_firstFault_12 ki_1 ?_
    refine r_istore_n C (lv' := [(1, .int (nI 1)), (0, .ref b6)]) dX2_firstFault_13 rfl (by decide) rfl ?_
    have loop14_2 : ∀ (dd9 : Nat) (c : Nat) (i : Nat), sz + 120 - i < dd9 → (i = pos sg c) → (∀ j, j < c → pos sg j < sz ∧ okC sg sz (pos sg j)) → ω [(b6, .inr (2, [.ref c6, .int (nI sz)])), (c6, .inl (eI E, 120, .inl tx))] [(1, .int (nI i)), (0, .ref b6)] [] 14 := by
      intro dd9
      induction dd9 with
      | zero => intro c i hd; exact absurd hd (Nat.not_lt_zero _)
      | succ dd9 ih3 =>
        intro c i hd hi hpr
        have hnd := nD_le (sg i)
        have hpg := pos_ge sg c
        have hcz : i ≤ 130 := by rw [hi]; exact pos_le hT.1 hpr
        refine r_iload_n C (i := 1) 0 dX2_firstFault_14 rfl rfl ?_
        refine r_aload_n C (i := 0) 1 dX2_firstFault_15 rfl rfl ?_
        refine r_get C 0 1 uX2 rfl rfl (by decide) w_1_67 rfl dX2_firstFault_16 ?_
        refine r_icmp_ge C (c9 := sz ≤ i) 61 dX2_firstFault_19 (by decide) (c_leNN (by omega) (by omega)) (fun h19_4 => ?_) (fun h19_4 => ?_)
        · refine r_iconst C dX2_firstFault_61 ki_m1 ?_
          exact RT.1 _ _ _ _ _ dX2_firstFault_62 rfl rfl (rd_i (congrArg mI (flt_end hh (nC_at (c := c) (Or.inl (by omega)) hpr) (by omega)).symm)) rfl
        · refine r_aload_n C (i := 0) 1 dX2_firstFault_22 rfl rfl ?_
          refine r_iload_n C (i := 1) 0 dX2_firstFault_23 rfl rfl ?_
          refine r_readV (rest := []) C (c_X2_signAt (b6 := b6) (c6 := c6) (sz := sz) (tx := tx) (sg := sg) (i := i) (hT := hT) (hi := (by omega))) lk_X2_signAt w_1_180 [0, 1] rfl dX2_firstFault_24 rfl rfl rfl rfl ⟨by decide, by decide⟩ (Nat.le_of_ble_eq_true rfl) (st' := [.int (nI (sg i))]) rfl ?_
          have hi256 := (hT.2 i (by omega)).2
          refine r_readS (rest := []) C (c_X2_isCommand (c := sg i) (hc := (by omega))) lk_X2_isCommand w_1_184 [] dX2_firstFault_27 rfl rfl rfl ⟨by decide, by decide⟩ (Nat.le_of_ble_eq_true rfl) (st' := [.int (bP (isC (sg i)))]) rfl ?_
          refine r_if_ne C (y := 0) (c9 := isC (sg i)) 35 dX2_firstFault_30 (by decide) z_neB (fun h30_5 => ?_) (fun h30_5 => ?_)
          · refine r_aload_n C (i := 0) 1 dX2_firstFault_35 rfl rfl ?_
            refine r_iload_n C (i := 1) 0 dX2_firstFault_36 rfl rfl ?_
            refine r_readV (rest := []) C (c_X2_faultBehind (b6 := b6) (c6 := c6) (sz := sz) (tx := tx) (sg := sg) (i := i) (hT := hT) (hi := (by omega))) lk_X2_faultBehind w_1_200 [0, 1] rfl dX2_firstFault_37 rfl rfl rfl rfl ⟨by decide, by decide⟩ (Nat.le_of_ble_eq_true rfl) (st' := [.int (mI (fbN sg sz i))]) rfl ?_
            refine r_istore_n C (lv' := [(2, .int (mI (fbN sg sz i))), (1, .int (nI i)), (0, .ref b6)]) dX2_firstFault_40 rfl (by decide) rfl ?_
            have hfb := fbN_le (sg := sg) (sz := sz) (i := i)
            refine r_iload_n C (i := 2) 0 dX2_firstFault_41 rfl rfl ?_
            refine r_iconst C dX2_firstFault_42 ki_m1 ?_
            refine r_icmp_eq C (c9 := fbN sg sz i = 0) 48 dX2_firstFault_43 (by decide) (c_eqMM (by omega) (by omega)) (fun h43_6 => ?_) (fun h43_6 => ?_)
            · refine r_iload_n C (i := 1) 1 dX2_firstFault_48 rfl rfl ?_
              refine r_iconst C dX2_firstFault_49 ki_1 ?_
              refine r_aload_n C (i := 0) 2 dX2_firstFault_50 rfl rfl ?_
              refine r_iload_n C (i := 1) 1 dX2_firstFault_51 rfl rfl ?_
              refine r_readV (rest := [.int (nI 1), .int (nI i)]) C (c_X2_digitsBehind (b6 := b6) (c6 := c6) (sz := sz) (tx := tx) (sg := sg) (i := i) (hT := hT) (hi := (by omega))) lk_X2_digitsBehind w_2_16 [0, 1] rfl dX2_firstFault_52 rfl rfl rfl rfl ⟨by decide, by decide⟩ (Nat.le_of_ble_eq_true rfl) (st' := [.int (nI (nD (sg i))), .int (nI 1), .int (nI i)]) rfl ?_
              refine r_iadd (v := nI (1 + nD (sg i))) C dX2_firstFault_55 (nI_add _ _) ?_
              refine r_iadd (v := nI (i + 1 + nD (sg i))) C dX2_firstFault_56 ((nI_add _ _).trans (congrArg nI (by omega))) ?_
              refine r_istore_n C (lv' := [(1, .int (nI (i + 1 + nD (sg i)))), (2, .int (mI (fbN sg sz i))), (0, .ref b6)]) dX2_firstFault_57 rfl (by decide) rfl ?_
              refine r_goto C 14 dX2_firstFault_58 (by decide) ?_
              refine r_lv (lv' := [(1, .int (nI (i + 1 + nD (sg i)))), (0, .ref b6)]) C [0, 2] rfl ?_
              exact ih3 (c + 1) (i + 1 + nD (sg i)) (by omega) (by rw [pos, ← hi]) (lt_step hpr (by rw [← hi]; exact ⟨by omega, h30_5, fbN_0.mp h43_6⟩))
            · refine r_iload_n C (i := 2) 0 dX2_firstFault_46 rfl rfl ?_
              exact RT.1 _ _ _ _ _ dX2_firstFault_47 rfl rfl (rd_i (congrArg mI (by rw [flt_bad hh (nC_at (c := c) (Or.inr (fun z => (fun z => h43_6 (fbN_0.mpr z)) (by rw [hi]; exact z.2))) hpr) (by omega) (by rw [← hi]; exact h30_5), ← hi, fbN, if_neg (fun z => h43_6 (fbN_0.mpr z))]))) rfl
          · refine r_iload_n C (i := 1) 0 dX2_firstFault_33 rfl rfl ?_
            exact RT.1 _ _ _ _ _ dX2_firstFault_34 rfl rfl (rd_i (by rw [flt_no hh (nC_at (c := c) (Or.inr (fun z => h30_5 (by rw [hi]; exact z.1))) hpr) (by omega) (by rw [← hi]; exact h30_5), mI_s, ← hi])) rfl
    exact loop14_2 _ 0 1 (Nat.lt_succ_self _) rfl (fun j hj => absurd hj (Nat.not_lt_zero j))
  · refine r_iconst C dX2_firstFault_10 ki_0 ?_
    exact RT.1 _ _ _ _ _ dX2_firstFault_11 rfl rfl (rd_i ((mI_s 0).symm.trans (congrArg mI (flt_0 (Or.inr (by omega))).symm))) rfl
theorem c_X2_firstFault {l : Launch} {E : Ev} {b6 c6 sz : Nat} {tx : Nat → Int32} {sg : Nat → Nat} (hT : TxR sg sz tx) : Cr l E yX2_firstFault cX2_firstFault 3 (some FieldType.int) 6 130 [.ref b6] [(b6, .inr (2, [.ref c6, .int (nI sz)])), (c6, .inl (eI E, 120, .inl tx))] (some (.int (mI (flt sg sz)))) := by
  by_cases h : sz = 0
  · exact c_X2_firstFault__z hT h
  · exact c_X2_firstFault__n hT (by omega)
set_option maxRecDepth 100000 in
set_option maxHeartbeats 1000000 in
theorem c_X5_errorPosition {l : Launch} {E : Ev} {hB b1 b2 b3 b4 b5 b6 b7 b8 b9 b10 : Nat} {c6 sz : Nat} {tx : Nat → Int32} {sg : Nat → Nat} (hT : TxR sg sz tx) : Cr l E yX5_errorPosition cX5_errorPosition 1 (some FieldType.int) 7 152 [.ref hB] [(hB, .inr (5, [.ref b1, .ref b2, .ref b3, .ref b4, .ref b5, .ref b6, .ref b7, .ref b8, .ref b9, .ref b10])), (b6, .inr (2, [.ref c6, .int (nI sz)])), (c6, .inl (eI E, 120, .inl tx))] (some (.int (mI (flt sg sz)))) := by
  have hTz := hT.1
  refine ct_of (by decide +kernel) (Nat.le_of_ble_eq_true rfl) (fun ω C RT => ?_)
  show ω [(hB, .inr (5, [.ref b1, .ref b2, .ref b3, .ref b4, .ref b5, .ref b6, .ref b7, .ref b8, .ref b9, .ref b10])), (b6, .inr (2, [.ref c6, .int (nI sz)])), (c6, .inl (eI E, 120, .inl tx))] [(0, .ref hB)] [] 0
  refine r_aload_n C (i := 0) 0 dX5_errorPosition_0 rfl rfl ?_
  refine r_get C 0 5 uX5 rfl rfl (by decide) w_1_134 rfl dX5_errorPosition_1 ?_
  refine r_readV (rest := []) C (c_X2_firstFault (b6 := b6) (c6 := c6) (sz := sz) (tx := tx) (sg := sg) (hT := hT)) lk_X2_firstFault w_1_176 [1, 2] rfl dX5_errorPosition_4 rfl rfl rfl rfl ⟨by decide, by decide⟩ (Nat.le_of_ble_eq_true rfl) (st' := [.int (mI (flt sg sz))]) rfl ?_
  exact RT.1 _ _ _ _ _ dX5_errorPosition_7 rfl rfl (rd_i rfl) rfl
set_option maxRecDepth 100000 in
set_option maxHeartbeats 2000000 in
theorem c_X5_obeyText__a {l : Launch} {E : Ev} {hB b1 b2 b3 b4 b5 b6 b7 b8 b9 b10 : Nat} {c1 : Nat} {f : Nat → Int32} {σ : Sg} (hR : RepC σ f) (hW : Wf σ) {c6 sz : Nat} {tx : Nat → Int32} {sg : Nat → Nat} (hT : TxR sg sz tx) {i : Nat} (hi : i < sz) (hc : sg i = 97) (hg : ∀ j, j < 1 → gd sg sz i j) : Ct l E yX5_obeyText cX5_obeyText 2 (some FieldType.boolean) 5 109 [.ref hB, .int (nI i)] [(hB, .inr (5, [.ref b1, .ref b2, .ref b3, .ref b4, .ref b5, .ref b6, .ref b7, .ref b8, .ref b9, .ref b10])), (b1, .inr (4, [.ref c1])), (c1, .inl (eI E, 265, .inl f)), (b6, .inr (2, [.ref c6, .int (nI sz)])), (c6, .inl (eI E, 120, .inl tx))] (fun v9 w9 => ∃ f2 : Nat → Int32, v9 = some (.int (bP (loC σ sg i = 0))) ∧ w9 = [(hB, .inr (5, [.ref b1, .ref b2, .ref b3, .ref b4, .ref b5, .ref b6, .ref b7, .ref b8, .ref b9, .ref b10])), (b1, .inr (4, [.ref c1])), (c1, .inl (eI E, 265, .inl f2)), (b6, .inr (2, [.ref c6, .int (nI sz)])), (c6, .inl (eI E, 120, .inl tx))] ∧ RepC (opC σ sg i) f2) := by
  have hwP := hW.P
  have hwA := hW.A
  have hwS := hW.S
  have hTz := hT.1
  have g0 := (gdL_a0 hc).mp (hg 0 (by decide))
  have e0 : dD sg i 0 = sg (i + 1) - 48 := rfl
  refine ct_of (by decide +kernel) (Nat.le_of_ble_eq_true rfl) (fun ω C RT => ?_)
  show ω [(hB, .inr (5, [.ref b1, .ref b2, .ref b3, .ref b4, .ref b5, .ref b6, .ref b7, .ref b8, .ref b9, .ref b10])), (b1, .inr (4, [.ref c1])), (c1, .inl (eI E, 265, .inl f)), (b6, .inr (2, [.ref c6, .int (nI sz)])), (c6, .inl (eI E, 120, .inl tx))] [(0, .ref hB), (1, .int (nI i))] [] 0
  refine r_aload_n C (i := 0) 0 dX5_obeyText_0 rfl rfl ?_
  refine r_get C 0 5 uX5 rfl rfl (by decide) w_1_134 rfl dX5_obeyText_1 ?_
  refine r_iload_n C (i := 1) 1 dX5_obeyText_4 rfl rfl ?_
  refine r_readV (rest := []) C (c_X2_signAt (b6 := b6) (c6 := c6) (sz := sz) (tx := tx) (sg := sg) (i := i) (hT := hT) (hi := (by omega))) lk_X2_signAt w_3_27 [3, 4] rfl dX5_obeyText_5 rfl rfl rfl rfl ⟨by decide, by decide⟩ (Nat.le_of_ble_eq_true rfl) (st' := [.int (nI (sg i))]) rfl ?_
  refine r_st (st' := [.int (nI 97)]) (by rw [hc]) ?_
  refine r_look (off := 60) C 68 dX5_obeyText_8 (by decide) (by decide) (by decide) ?_
  refine r_aload_n C (i := 0) 0 dX5_obeyText_68 rfl rfl ?_
  refine r_get C 0 0 uX5 rfl rfl (by decide) w_1_129 rfl dX5_obeyText_69 ?_
  refine r_aload_n C (i := 0) 0 dX5_obeyText_72 rfl rfl ?_
  refine r_get C 0 5 uX5 rfl rfl (by decide) w_1_134 rfl dX5_obeyText_73 ?_
  refine r_iload_n C (i := 1) 1 dX5_obeyText_76 rfl rfl ?_
  refine r_iconst C dX5_obeyText_77 ki_1 ?_
  refine r_iadd (v := nI (i + 1)) C dX5_obeyText_78 (nI_add _ _) ?_
  refine r_readV (rest := [.ref b1]) C (c_X2_digit (b6 := b6) (c6 := c6) (sz := sz) (tx := tx) (sg := sg) (i := i + 1) (hT := hT) (hi := (by omega)) (hd := (by omega))) lk_X2_digit w_3_28 [3, 4] rfl dX5_obeyText_79 rfl rfl rfl rfl ⟨by decide, by decide⟩ (Nat.le_of_ble_eq_true rfl) (st' := [.int (nI (sg (i + 1) - 48)), .ref b1]) rfl ?_
  refine r_callV (rest := []) C (c_X4_hire (h0 := b1) (q1 := c1) (f := f) (σ := σ) (x := sg (i + 1) - 48) (hR := hR) (hW := hW) (hx := (by omega))) lk_X4_hire w_3_32 [1, 2] rfl dX5_obeyText_82 rfl rfl rfl rfl ⟨by decide, by decide⟩ (Nat.le_of_ble_eq_true rfl) ?_
  rintro _ _ ⟨f_1, rfl, rfl, hR_2⟩
  have hW_3 : Wf (tHire σ (sg (i + 1) - 48)) := tHire_wf hW
  show ω [(hB, .inr (5, [.ref b1, .ref b2, .ref b3, .ref b4, .ref b5, .ref b6, .ref b7, .ref b8, .ref b9, .ref b10])), (b1, .inr (4, [.ref c1])), (c1, .inl (eI E, 265, .inl f_1)), (b6, .inr (2, [.ref c6, .int (nI sz)])), (c6, .inl (eI E, 120, .inl tx))] [(0, .ref hB), (1, .int (nI i))] [.int (bP ((sg (i + 1) - 48) ≤ 9 ∧ sA σ < 10))] 85
  exact RT.1 _ _ _ _ _ dX5_obeyText_85 rfl nar_B (⟨_, sv (bP_c (by rw [loL_a hc, if01] <;> first | exact Iff.rfl | omega)), rfl, by rw [opL_a hc]; exact hR_2⟩) rfl
set_option maxRecDepth 100000 in
set_option maxHeartbeats 2000000 in
theorem c_X5_obeyText__p {l : Launch} {E : Ev} {hB b1 b2 b3 b4 b5 b6 b7 b8 b9 b10 : Nat} {c1 : Nat} {f : Nat → Int32} {σ : Sg} (hR : RepC σ f) (hW : Wf σ) {c6 sz : Nat} {tx : Nat → Int32} {sg : Nat → Nat} (hT : TxR sg sz tx) {i : Nat} (hi : i < sz) (hc : sg i = 112) (hg : ∀ j, j < 0 → gd sg sz i j) : Ct l E yX5_obeyText cX5_obeyText 2 (some FieldType.boolean) 5 109 [.ref hB, .int (nI i)] [(hB, .inr (5, [.ref b1, .ref b2, .ref b3, .ref b4, .ref b5, .ref b6, .ref b7, .ref b8, .ref b9, .ref b10])), (b1, .inr (4, [.ref c1])), (c1, .inl (eI E, 265, .inl f)), (b6, .inr (2, [.ref c6, .int (nI sz)])), (c6, .inl (eI E, 120, .inl tx))] (fun v9 w9 => ∃ f2 : Nat → Int32, v9 = some (.int (bP (loC σ sg i = 0))) ∧ w9 = [(hB, .inr (5, [.ref b1, .ref b2, .ref b3, .ref b4, .ref b5, .ref b6, .ref b7, .ref b8, .ref b9, .ref b10])), (b1, .inr (4, [.ref c1])), (c1, .inl (eI E, 265, .inl f2)), (b6, .inr (2, [.ref c6, .int (nI sz)])), (c6, .inl (eI E, 120, .inl tx))] ∧ RepC (opC σ sg i) f2) := by
  have hwP := hW.P
  have hwA := hW.A
  have hwS := hW.S
  have hTz := hT.1
  refine ct_of (by decide +kernel) (Nat.le_of_ble_eq_true rfl) (fun ω C RT => ?_)
  show ω [(hB, .inr (5, [.ref b1, .ref b2, .ref b3, .ref b4, .ref b5, .ref b6, .ref b7, .ref b8, .ref b9, .ref b10])), (b1, .inr (4, [.ref c1])), (c1, .inl (eI E, 265, .inl f)), (b6, .inr (2, [.ref c6, .int (nI sz)])), (c6, .inl (eI E, 120, .inl tx))] [(0, .ref hB), (1, .int (nI i))] [] 0
  refine r_aload_n C (i := 0) 0 dX5_obeyText_0 rfl rfl ?_
  refine r_get C 0 5 uX5 rfl rfl (by decide) w_1_134 rfl dX5_obeyText_1 ?_
  refine r_iload_n C (i := 1) 1 dX5_obeyText_4 rfl rfl ?_
  refine r_readV (rest := []) C (c_X2_signAt (b6 := b6) (c6 := c6) (sz := sz) (tx := tx) (sg := sg) (i := i) (hT := hT) (hi := (by omega))) lk_X2_signAt w_3_27 [3, 4] rfl dX5_obeyText_5 rfl rfl rfl rfl ⟨by decide, by decide⟩ (Nat.le_of_ble_eq_true rfl) (st' := [.int (nI (sg i))]) rfl ?_
  refine r_st (st' := [.int (nI 112)]) (by rw [hc]) ?_
  refine r_look (off := 78) C 86 dX5_obeyText_8 (by decide) (by decide) (by decide) ?_
  refine r_aload_n C (i := 0) 0 dX5_obeyText_86 rfl rfl ?_
  refine r_get C 0 0 uX5 rfl rfl (by decide) w_1_129 rfl dX5_obeyText_87 ?_
  refine r_callV (rest := []) C (c_X4_openPart (h0 := b1) (q1 := c1) (f := f) (σ := σ) (hR := hR) (hW := hW)) lk_X4_openPart w_3_41 [1, 2] rfl dX5_obeyText_90 rfl rfl rfl rfl ⟨by decide, by decide⟩ (Nat.le_of_ble_eq_true rfl) ?_
  rintro _ _ ⟨f_1, rfl, rfl, hR_2⟩
  have hW_3 : Wf (tPart σ) := tPart_wf hW
  show ω [(hB, .inr (5, [.ref b1, .ref b2, .ref b3, .ref b4, .ref b5, .ref b6, .ref b7, .ref b8, .ref b9, .ref b10])), (b1, .inr (4, [.ref c1])), (c1, .inl (eI E, 265, .inl f_1)), (b6, .inr (2, [.ref c6, .int (nI sz)])), (c6, .inl (eI E, 120, .inl tx))] [(0, .ref hB), (1, .int (nI i))] [.int (bP (sP σ < 6))] 93
  exact RT.1 _ _ _ _ _ dX5_obeyText_93 rfl nar_B (⟨_, sv (bP_c (by rw [loL_p hc, if01] <;> first | exact Iff.rfl | omega)), rfl, by rw [opL_p hc]; exact hR_2⟩) rfl
set_option maxRecDepth 100000 in
set_option maxHeartbeats 2000000 in
theorem c_X5_obeyText__c {l : Launch} {E : Ev} {hB b1 b2 b3 b4 b5 b6 b7 b8 b9 b10 : Nat} {c1 : Nat} {f : Nat → Int32} {σ : Sg} (hR : RepC σ f) (hW : Wf σ) {c6 sz : Nat} {tx : Nat → Int32} {sg : Nat → Nat} (hT : TxR sg sz tx) {i : Nat} (hi : i < sz) (hc : sg i = 99) (hg : ∀ j, j < 4 → gd sg sz i j) : Ct l E yX5_obeyText cX5_obeyText 2 (some FieldType.boolean) 5 109 [.ref hB, .int (nI i)] [(hB, .inr (5, [.ref b1, .ref b2, .ref b3, .ref b4, .ref b5, .ref b6, .ref b7, .ref b8, .ref b9, .ref b10])), (b1, .inr (4, [.ref c1])), (c1, .inl (eI E, 265, .inl f)), (b6, .inr (2, [.ref c6, .int (nI sz)])), (c6, .inl (eI E, 120, .inl tx))] (fun v9 w9 => ∃ f2 : Nat → Int32, v9 = some (.int (bP (loC σ sg i = 0))) ∧ w9 = [(hB, .inr (5, [.ref b1, .ref b2, .ref b3, .ref b4, .ref b5, .ref b6, .ref b7, .ref b8, .ref b9, .ref b10])), (b1, .inr (4, [.ref c1])), (c1, .inl (eI E, 265, .inl f2)), (b6, .inr (2, [.ref c6, .int (nI sz)])), (c6, .inl (eI E, 120, .inl tx))] ∧ RepC (opC σ sg i) f2) := by
  have hwP := hW.P
  have hwA := hW.A
  have hwS := hW.S
  have hTz := hT.1
  have g0 := (gdL_c0 hc).mp (hg 0 (by decide))
  have e0 : dD sg i 0 = sg (i + 1) - 48 := rfl
  have g1 := (gdL_c1 hc).mp (hg 1 (by decide))
  have e1 : dD sg i 1 = sg (i + 2) - 48 := rfl
  have g2 := (gdL_c2 hc).mp (hg 2 (by decide))
  have e2 : dD sg i 2 = sg (i + 3) - 48 := rfl
  have g3 := (gdL_c3 hc).mp (hg 3 (by decide))
  have e3 : dD sg i 3 = sg (i + 4) - 48 := rfl
  refine ct_of (by decide +kernel) (Nat.le_of_ble_eq_true rfl) (fun ω C RT => ?_)
  show ω [(hB, .inr (5, [.ref b1, .ref b2, .ref b3, .ref b4, .ref b5, .ref b6, .ref b7, .ref b8, .ref b9, .ref b10])), (b1, .inr (4, [.ref c1])), (c1, .inl (eI E, 265, .inl f)), (b6, .inr (2, [.ref c6, .int (nI sz)])), (c6, .inl (eI E, 120, .inl tx))] [(0, .ref hB), (1, .int (nI i))] [] 0
  refine r_aload_n C (i := 0) 0 dX5_obeyText_0 rfl rfl ?_
  refine r_get C 0 5 uX5 rfl rfl (by decide) w_1_134 rfl dX5_obeyText_1 ?_
  refine r_iload_n C (i := 1) 1 dX5_obeyText_4 rfl rfl ?_
  refine r_readV (rest := []) C (c_X2_signAt (b6 := b6) (c6 := c6) (sz := sz) (tx := tx) (sg := sg) (i := i) (hT := hT) (hi := (by omega))) lk_X2_signAt w_3_27 [3, 4] rfl dX5_obeyText_5 rfl rfl rfl rfl ⟨by decide, by decide⟩ (Nat.le_of_ble_eq_true rfl) (st' := [.int (nI (sg i))]) rfl ?_
  refine r_st (st' := [.int (nI 99)]) (by rw [hc]) ?_
  refine r_look (off := 86) C 94 dX5_obeyText_8 (by decide) (by decide) (by decide) ?_
  refine r_aload_n C (i := 0) 0 dX5_obeyText_94 rfl rfl ?_
  refine r_get C 0 0 uX5 rfl rfl (by decide) w_1_129 rfl dX5_obeyText_95 ?_
  refine r_aload_n C (i := 0) 0 dX5_obeyText_98 rfl rfl ?_
  refine r_get C 0 5 uX5 rfl rfl (by decide) w_1_134 rfl dX5_obeyText_99 ?_
  refine r_iload_n C (i := 1) 1 dX5_obeyText_102 rfl rfl ?_
  refine r_iconst C dX5_obeyText_103 ki_1 ?_
  refine r_iadd (v := nI (i + 1)) C dX5_obeyText_104 (nI_add _ _) ?_
  refine r_readV (rest := [.ref b1]) C (c_X2_digit (b6 := b6) (c6 := c6) (sz := sz) (tx := tx) (sg := sg) (i := i + 1) (hT := hT) (hi := (by omega)) (hd := (by omega))) lk_X2_digit w_3_28 [3, 4] rfl dX5_obeyText_105 rfl rfl rfl rfl ⟨by decide, by decide⟩ (Nat.le_of_ble_eq_true rfl) (st' := [.int (nI (sg (i + 1) - 48)), .ref b1]) rfl ?_
  refine r_aload_n C (i := 0) 0 dX5_obeyText_108 rfl rfl ?_
  refine r_get C 0 5 uX5 rfl rfl (by decide) w_1_134 rfl dX5_obeyText_109 ?_
  refine r_iload_n C (i := 1) 1 dX5_obeyText_112 rfl rfl ?_
  refine r_iconst C dX5_obeyText_113 ki_2 ?_
  refine r_iadd (v := nI (i + 2)) C dX5_obeyText_114 (nI_add _ _) ?_
  refine r_readV (rest := [.int (nI (sg (i + 1) - 48)), .ref b1]) C (c_X2_digit (b6 := b6) (c6 := c6) (sz := sz) (tx := tx) (sg := sg) (i := i + 2) (hT := hT) (hi := (by omega)) (hd := (by omega))) lk_X2_digit w_3_28 [3, 4] rfl dX5_obeyText_115 rfl rfl rfl rfl ⟨by decide, by decide⟩ (Nat.le_of_ble_eq_true rfl) (st' := [.int (nI (sg (i + 2) - 48)), .int (nI (sg (i + 1) - 48)), .ref b1]) rfl ?_
  refine r_aload_n C (i := 0) 0 dX5_obeyText_118 rfl rfl ?_
  refine r_get C 0 5 uX5 rfl rfl (by decide) w_1_134 rfl dX5_obeyText_119 ?_
  refine r_iload_n C (i := 1) 1 dX5_obeyText_122 rfl rfl ?_
  refine r_iconst C dX5_obeyText_123 ki_3 ?_
  refine r_iadd (v := nI (i + 3)) C dX5_obeyText_124 (nI_add _ _) ?_
  refine r_readV (rest := [.int (nI (sg (i + 2) - 48)), .int (nI (sg (i + 1) - 48)), .ref b1]) C (c_X2_pair (b6 := b6) (c6 := c6) (sz := sz) (tx := tx) (sg := sg) (i := i + 3) (hT := hT) (hi := (by omega)) (hd := (by omega)) (hd2 := (show 48 ≤ sg (i + 4) by omega))) lk_X2_pair w_3_61 [3, 4] rfl dX5_obeyText_125 rfl rfl rfl rfl ⟨by decide, by decide⟩ (Nat.le_of_ble_eq_true rfl) (st' := [.int (nI (10 * (sg (i + 3) - 48) + (sg (i + 4) - 48))), .int (nI (sg (i + 2) - 48)), .int (nI (sg (i + 1) - 48)), .ref b1]) rfl ?_
  refine r_callV (rest := []) C (c_X4_recast__n (h0 := b1) (q1 := c1) (f := f) (σ := σ) (p := sg (i + 1) - 48) (a := sg (i + 2) - 48) (n := 10 * (sg (i + 3) - 48) + (sg (i + 4) - 48)) (hR := hR) (hW := hW) (hp := (by omega)) (ha := (by omega)) (hn := (by omega))) lk_X4_recast w_3_66 [1, 2] rfl dX5_obeyText_128 rfl rfl rfl rfl ⟨by decide, by decide⟩ (Nat.le_of_ble_eq_true rfl) ?_
  rintro _ _ ⟨f_1, rfl, rfl, hR_2⟩
  have hW_3 : Wf (tCast σ (sg (i + 1) - 48) ((sg (i + 2) - 48) + 1) (10 * (sg (i + 3) - 48) + (sg (i + 4) - 48))) := tCast_wf hW
  show ω [(hB, .inr (5, [.ref b1, .ref b2, .ref b3, .ref b4, .ref b5, .ref b6, .ref b7, .ref b8, .ref b9, .ref b10])), (b1, .inr (4, [.ref c1])), (c1, .inl (eI E, 265, .inl f_1)), (b6, .inr (2, [.ref c6, .int (nI sz)])), (c6, .inl (eI E, 120, .inl tx))] [(0, .ref hB), (1, .int (nI i))] [.int (bP ((sg (i + 1) - 48) < sP σ ∧ (10 * (sg (i + 3) - 48) + (sg (i + 4) - 48)) < 20 ∧ (sg (i + 2) - 48) < sA σ))] 131
  exact RT.1 _ _ _ _ _ dX5_obeyText_131 rfl nar_B (⟨_, sv (bP_c (by rw [loL_c hc, if01] <;> first | exact Iff.rfl | omega)), rfl, by rw [opL_c hc]; exact hR_2⟩) rfl
set_option maxRecDepth 100000 in
set_option maxHeartbeats 2000000 in
theorem c_X5_obeyText__u {l : Launch} {E : Ev} {hB b1 b2 b3 b4 b5 b6 b7 b8 b9 b10 : Nat} {c1 : Nat} {f : Nat → Int32} {σ : Sg} (hR : RepC σ f) (hW : Wf σ) {c6 sz : Nat} {tx : Nat → Int32} {sg : Nat → Nat} (hT : TxR sg sz tx) {i : Nat} (hi : i < sz) (hc : sg i = 117) (hg : ∀ j, j < 2 → gd sg sz i j) : Ct l E yX5_obeyText cX5_obeyText 2 (some FieldType.boolean) 5 109 [.ref hB, .int (nI i)] [(hB, .inr (5, [.ref b1, .ref b2, .ref b3, .ref b4, .ref b5, .ref b6, .ref b7, .ref b8, .ref b9, .ref b10])), (b1, .inr (4, [.ref c1])), (c1, .inl (eI E, 265, .inl f)), (b6, .inr (2, [.ref c6, .int (nI sz)])), (c6, .inl (eI E, 120, .inl tx))] (fun v9 w9 => ∃ f2 : Nat → Int32, v9 = some (.int (bP (loC σ sg i = 0))) ∧ w9 = [(hB, .inr (5, [.ref b1, .ref b2, .ref b3, .ref b4, .ref b5, .ref b6, .ref b7, .ref b8, .ref b9, .ref b10])), (b1, .inr (4, [.ref c1])), (c1, .inl (eI E, 265, .inl f2)), (b6, .inr (2, [.ref c6, .int (nI sz)])), (c6, .inl (eI E, 120, .inl tx))] ∧ RepC (opC σ sg i) f2) := by
  have hwP := hW.P
  have hwA := hW.A
  have hwS := hW.S
  have hTz := hT.1
  have g0 := (gdL_u0 hc).mp (hg 0 (by decide))
  have e0 : dD sg i 0 = sg (i + 1) - 48 := rfl
  have g1 := (gdL_u1 hc).mp (hg 1 (by decide))
  have e1 : dD sg i 1 = sg (i + 2) - 48 := rfl
  refine ct_of (by decide +kernel) (Nat.le_of_ble_eq_true rfl) (fun ω C RT => ?_)
  show ω [(hB, .inr (5, [.ref b1, .ref b2, .ref b3, .ref b4, .ref b5, .ref b6, .ref b7, .ref b8, .ref b9, .ref b10])), (b1, .inr (4, [.ref c1])), (c1, .inl (eI E, 265, .inl f)), (b6, .inr (2, [.ref c6, .int (nI sz)])), (c6, .inl (eI E, 120, .inl tx))] [(0, .ref hB), (1, .int (nI i))] [] 0
  refine r_aload_n C (i := 0) 0 dX5_obeyText_0 rfl rfl ?_
  refine r_get C 0 5 uX5 rfl rfl (by decide) w_1_134 rfl dX5_obeyText_1 ?_
  refine r_iload_n C (i := 1) 1 dX5_obeyText_4 rfl rfl ?_
  refine r_readV (rest := []) C (c_X2_signAt (b6 := b6) (c6 := c6) (sz := sz) (tx := tx) (sg := sg) (i := i) (hT := hT) (hi := (by omega))) lk_X2_signAt w_3_27 [3, 4] rfl dX5_obeyText_5 rfl rfl rfl rfl ⟨by decide, by decide⟩ (Nat.le_of_ble_eq_true rfl) (st' := [.int (nI (sg i))]) rfl ?_
  refine r_st (st' := [.int (nI 117)]) (by rw [hc]) ?_
  refine r_look (off := 124) C 132 dX5_obeyText_8 (by decide) (by decide) (by decide) ?_
  refine r_aload_n C (i := 0) 0 dX5_obeyText_132 rfl rfl ?_
  refine r_get C 0 0 uX5 rfl rfl (by decide) w_1_129 rfl dX5_obeyText_133 ?_
  refine r_aload_n C (i := 0) 0 dX5_obeyText_136 rfl rfl ?_
  refine r_get C 0 5 uX5 rfl rfl (by decide) w_1_134 rfl dX5_obeyText_137 ?_
  refine r_iload_n C (i := 1) 1 dX5_obeyText_140 rfl rfl ?_
  refine r_iconst C dX5_obeyText_141 ki_1 ?_
  refine r_iadd (v := nI (i + 1)) C dX5_obeyText_142 (nI_add _ _) ?_
  refine r_readV (rest := [.ref b1]) C (c_X2_digit (b6 := b6) (c6 := c6) (sz := sz) (tx := tx) (sg := sg) (i := i + 1) (hT := hT) (hi := (by omega)) (hd := (by omega))) lk_X2_digit w_3_28 [3, 4] rfl dX5_obeyText_143 rfl rfl rfl rfl ⟨by decide, by decide⟩ (Nat.le_of_ble_eq_true rfl) (st' := [.int (nI (sg (i + 1) - 48)), .ref b1]) rfl ?_
  refine r_aload_n C (i := 0) 0 dX5_obeyText_146 rfl rfl ?_
  refine r_get C 0 5 uX5 rfl rfl (by decide) w_1_134 rfl dX5_obeyText_147 ?_
  refine r_iload_n C (i := 1) 1 dX5_obeyText_150 rfl rfl ?_
  refine r_iconst C dX5_obeyText_151 ki_2 ?_
  refine r_iadd (v := nI (i + 2)) C dX5_obeyText_152 (nI_add _ _) ?_
  refine r_readV (rest := [.int (nI (sg (i + 1) - 48)), .ref b1]) C (c_X2_digit (b6 := b6) (c6 := c6) (sz := sz) (tx := tx) (sg := sg) (i := i + 2) (hT := hT) (hi := (by omega)) (hd := (by omega))) lk_X2_digit w_3_28 [3, 4] rfl dX5_obeyText_153 rfl rfl rfl rfl ⟨by decide, by decide⟩ (Nat.le_of_ble_eq_true rfl) (st' := [.int (nI (sg (i + 2) - 48)), .int (nI (sg (i + 1) - 48)), .ref b1]) rfl ?_
  refine r_callV (rest := []) C (c_X4_addUnderstudy (h0 := b1) (q1 := c1) (f := f) (σ := σ) (p := sg (i + 1) - 48) (a := sg (i + 2) - 48) (hR := hR) (hW := hW) (hp := (by omega)) (ha := (by omega))) lk_X4_addUnderstudy w_3_67 [1, 2] rfl dX5_obeyText_156 rfl rfl rfl rfl ⟨by decide, by decide⟩ (Nat.le_of_ble_eq_true rfl) ?_
  rintro _ _ ⟨f_1, rfl, rfl, hR_2⟩
  have hW_3 : Wf (tStudy σ (sg (i + 1) - 48) (sg (i + 2) - 48)) := tStudy_wf hW
  show ω [(hB, .inr (5, [.ref b1, .ref b2, .ref b3, .ref b4, .ref b5, .ref b6, .ref b7, .ref b8, .ref b9, .ref b10])), (b1, .inr (4, [.ref c1])), (c1, .inl (eI E, 265, .inl f_1)), (b6, .inr (2, [.ref c6, .int (nI sz)])), (c6, .inl (eI E, 120, .inl tx))] [(0, .ref hB), (1, .int (nI i))] [.int (bP ((sg (i + 1) - 48) < sP σ ∧ (sg (i + 2) - 48) < sA σ ∧ sC σ (sg (i + 1) - 48) < 4 ∧ rk σ (sg (i + 1) - 48) (sg (i + 2) - 48) = 0))] 159
  exact RT.1 _ _ _ _ _ dX5_obeyText_159 rfl nar_B (⟨_, sv (bP_c (by rw [loL_u hc, if01] <;> first | exact Iff.rfl | omega)), rfl, by rw [opL_u hc]; exact hR_2⟩) rfl
set_option maxRecDepth 100000 in
set_option maxHeartbeats 2000000 in
theorem c_X5_obeyText__i {l : Launch} {E : Ev} {hB b1 b2 b3 b4 b5 b6 b7 b8 b9 b10 : Nat} {c1 : Nat} {f : Nat → Int32} {σ : Sg} (hR : RepC σ f) (hW : Wf σ) {c6 sz : Nat} {tx : Nat → Int32} {sg : Nat → Nat} (hT : TxR sg sz tx) {i : Nat} (hi : i < sz) (hc : sg i = 105) (hg : ∀ j, j < 3 → gd sg sz i j) : Ct l E yX5_obeyText cX5_obeyText 2 (some FieldType.boolean) 5 109 [.ref hB, .int (nI i)] [(hB, .inr (5, [.ref b1, .ref b2, .ref b3, .ref b4, .ref b5, .ref b6, .ref b7, .ref b8, .ref b9, .ref b10])), (b1, .inr (4, [.ref c1])), (c1, .inl (eI E, 265, .inl f)), (b6, .inr (2, [.ref c6, .int (nI sz)])), (c6, .inl (eI E, 120, .inl tx))] (fun v9 w9 => ∃ f2 : Nat → Int32, v9 = some (.int (bP (loC σ sg i = 0))) ∧ w9 = [(hB, .inr (5, [.ref b1, .ref b2, .ref b3, .ref b4, .ref b5, .ref b6, .ref b7, .ref b8, .ref b9, .ref b10])), (b1, .inr (4, [.ref c1])), (c1, .inl (eI E, 265, .inl f2)), (b6, .inr (2, [.ref c6, .int (nI sz)])), (c6, .inl (eI E, 120, .inl tx))] ∧ RepC (opC σ sg i) f2) := by
  have hwP := hW.P
  have hwA := hW.A
  have hwS := hW.S
  have hTz := hT.1
  have g0 := (gdL_i0 hc).mp (hg 0 (by decide))
  have e0 : dD sg i 0 = sg (i + 1) - 48 := rfl
  have g1 := (gdL_i1 hc).mp (hg 1 (by decide))
  have e1 : dD sg i 1 = sg (i + 2) - 48 := rfl
  have g2 := (gdL_i2 hc).mp (hg 2 (by decide))
  have e2 : dD sg i 2 = sg (i + 3) - 48 := rfl
  refine ct_of (by decide +kernel) (Nat.le_of_ble_eq_true rfl) (fun ω C RT => ?_)
  show ω [(hB, .inr (5, [.ref b1, .ref b2, .ref b3, .ref b4, .ref b5, .ref b6, .ref b7, .ref b8, .ref b9, .ref b10])), (b1, .inr (4, [.ref c1])), (c1, .inl (eI E, 265, .inl f)), (b6, .inr (2, [.ref c6, .int (nI sz)])), (c6, .inl (eI E, 120, .inl tx))] [(0, .ref hB), (1, .int (nI i))] [] 0
  refine r_aload_n C (i := 0) 0 dX5_obeyText_0 rfl rfl ?_
  refine r_get C 0 5 uX5 rfl rfl (by decide) w_1_134 rfl dX5_obeyText_1 ?_
  refine r_iload_n C (i := 1) 1 dX5_obeyText_4 rfl rfl ?_
  refine r_readV (rest := []) C (c_X2_signAt (b6 := b6) (c6 := c6) (sz := sz) (tx := tx) (sg := sg) (i := i) (hT := hT) (hi := (by omega))) lk_X2_signAt w_3_27 [3, 4] rfl dX5_obeyText_5 rfl rfl rfl rfl ⟨by decide, by decide⟩ (Nat.le_of_ble_eq_true rfl) (st' := [.int (nI (sg i))]) rfl ?_
  refine r_st (st' := [.int (nI 105)]) (by rw [hc]) ?_
  refine r_look (off := 152) C 160 dX5_obeyText_8 (by decide) (by decide) (by decide) ?_
  refine r_aload_n C (i := 0) 0 dX5_obeyText_160 rfl rfl ?_
  refine r_get C 0 0 uX5 rfl rfl (by decide) w_1_129 rfl dX5_obeyText_161 ?_
  refine r_aload_n C (i := 0) 0 dX5_obeyText_164 rfl rfl ?_
  refine r_get C 0 5 uX5 rfl rfl (by decide) w_1_134 rfl dX5_obeyText_165 ?_
  refine r_iload_n C (i := 1) 1 dX5_obeyText_168 rfl rfl ?_
  refine r_iconst C dX5_obeyText_169 ki_1 ?_
  refine r_iadd (v := nI (i + 1)) C dX5_obeyText_170 (nI_add _ _) ?_
  refine r_readV (rest := [.ref b1]) C (c_X2_digit (b6 := b6) (c6 := c6) (sz := sz) (tx := tx) (sg := sg) (i := i + 1) (hT := hT) (hi := (by omega)) (hd := (by omega))) lk_X2_digit w_3_28 [3, 4] rfl dX5_obeyText_171 rfl rfl rfl rfl ⟨by decide, by decide⟩ (Nat.le_of_ble_eq_true rfl) (st' := [.int (nI (sg (i + 1) - 48)), .ref b1]) rfl ?_
  refine r_aload_n C (i := 0) 0 dX5_obeyText_174 rfl rfl ?_
  refine r_get C 0 5 uX5 rfl rfl (by decide) w_1_134 rfl dX5_obeyText_175 ?_
  refine r_iload_n C (i := 1) 1 dX5_obeyText_178 rfl rfl ?_
  refine r_iconst C dX5_obeyText_179 ki_2 ?_
  refine r_iadd (v := nI (i + 2)) C dX5_obeyText_180 (nI_add _ _) ?_
  refine r_readV (rest := [.int (nI (sg (i + 1) - 48)), .ref b1]) C (c_X2_pair (b6 := b6) (c6 := c6) (sz := sz) (tx := tx) (sg := sg) (i := i + 2) (hT := hT) (hi := (by omega)) (hd := (by omega)) (hd2 := (show 48 ≤ sg (i + 3) by omega))) lk_X2_pair w_3_61 [3, 4] rfl dX5_obeyText_181 rfl rfl rfl rfl ⟨by decide, by decide⟩ (Nat.le_of_ble_eq_true rfl) (st' := [.int (nI (10 * (sg (i + 2) - 48) + (sg (i + 3) - 48))), .int (nI (sg (i + 1) - 48)), .ref b1]) rfl ?_
  refine r_iconst C dX5_obeyText_184 ki_1 ?_
  refine r_callV (rest := []) C (c_X4_changeIllness (h0 := b1) (q1 := c1) (f := f) (σ := σ) (a := sg (i + 1) - 48) (n := 10 * (sg (i + 2) - 48) + (sg (i + 3) - 48)) (b := 1) (hR := hR) (hW := hW) (ha := (by omega)) (hn := (by omega)) (hb := (by omega))) lk_X4_changeIllness w_2_36 [1, 2] rfl dX5_obeyText_185 rfl rfl rfl rfl ⟨by decide, by decide⟩ (Nat.le_of_ble_eq_true rfl) ?_
  rintro _ _ ⟨f_1, rfl, rfl, hR_2⟩
  have hW_3 : Wf (tIll σ (sg (i + 1) - 48) (10 * (sg (i + 2) - 48) + (sg (i + 3) - 48)) 1) := tIll_wf hW (by omega)
  show ω [(hB, .inr (5, [.ref b1, .ref b2, .ref b3, .ref b4, .ref b5, .ref b6, .ref b7, .ref b8, .ref b9, .ref b10])), (b1, .inr (4, [.ref c1])), (c1, .inl (eI E, 265, .inl f_1)), (b6, .inr (2, [.ref c6, .int (nI sz)])), (c6, .inl (eI E, 120, .inl tx))] [(0, .ref hB), (1, .int (nI i))] [.int (bP ((sg (i + 1) - 48) < sA σ ∧ (10 * (sg (i + 2) - 48) + (sg (i + 3) - 48)) < 20))] 188
  exact RT.1 _ _ _ _ _ dX5_obeyText_188 rfl nar_B (⟨_, sv (bP_c (by rw [loL_i hc, if01] <;> first | exact Iff.rfl | omega)), rfl, by rw [opL_i hc]; exact hR_2⟩) rfl
set_option maxRecDepth 100000 in
set_option maxHeartbeats 2000000 in
theorem c_X5_obeyText__s {l : Launch} {E : Ev} {hB b1 b2 b3 b4 b5 b6 b7 b8 b9 b10 : Nat} {c1 : Nat} {f : Nat → Int32} {σ : Sg} (hR : RepC σ f) (hW : Wf σ) {c6 sz : Nat} {tx : Nat → Int32} {sg : Nat → Nat} (hT : TxR sg sz tx) {i : Nat} (hi : i < sz) (hc : sg i = 115) (hg : ∀ j, j < 6 → gd sg sz i j) : Ct l E yX5_obeyText cX5_obeyText 2 (some FieldType.boolean) 5 109 [.ref hB, .int (nI i)] [(hB, .inr (5, [.ref b1, .ref b2, .ref b3, .ref b4, .ref b5, .ref b6, .ref b7, .ref b8, .ref b9, .ref b10])), (b1, .inr (4, [.ref c1])), (c1, .inl (eI E, 265, .inl f)), (b6, .inr (2, [.ref c6, .int (nI sz)])), (c6, .inl (eI E, 120, .inl tx))] (fun v9 w9 => ∃ f2 : Nat → Int32, v9 = some (.int (bP (loC σ sg i = 0))) ∧ w9 = [(hB, .inr (5, [.ref b1, .ref b2, .ref b3, .ref b4, .ref b5, .ref b6, .ref b7, .ref b8, .ref b9, .ref b10])), (b1, .inr (4, [.ref c1])), (c1, .inl (eI E, 265, .inl f2)), (b6, .inr (2, [.ref c6, .int (nI sz)])), (c6, .inl (eI E, 120, .inl tx))] ∧ RepC (opC σ sg i) f2) := by
  have hwP := hW.P
  have hwA := hW.A
  have hwS := hW.S
  have hTz := hT.1
  have g0 := (gdL_s0 hc).mp (hg 0 (by decide))
  have e0 : dD sg i 0 = sg (i + 1) - 48 := rfl
  have g1 := (gdL_s1 hc).mp (hg 1 (by decide))
  have e1 : dD sg i 1 = sg (i + 2) - 48 := rfl
  have g2 := (gdL_s2 hc).mp (hg 2 (by decide))
  have e2 : dD sg i 2 = sg (i + 3) - 48 := rfl
  have g3 := (gdL_s3 hc).mp (hg 3 (by decide))
  have e3 : dD sg i 3 = sg (i + 4) - 48 := rfl
  have g4 := (gdL_s4 hc).mp (hg 4 (by decide))
  have e4 : dD sg i 4 = sg (i + 5) - 48 := rfl
  have g5 := (gdL_s5 hc).mp (hg 5 (by decide))
  have e5 : dD sg i 5 = sg (i + 6) - 48 := rfl
  have h59 : sg (i + 6) ≤ 57 ∧ 10 * (sg (i + 5) - 48) + (sg (i + 6) - 48) ≤ 23 := by split at g5 <;> omega
  refine ct_of (by decide +kernel) (Nat.le_of_ble_eq_true rfl) (fun ω C RT => ?_)
  show ω [(hB, .inr (5, [.ref b1, .ref b2, .ref b3, .ref b4, .ref b5, .ref b6, .ref b7, .ref b8, .ref b9, .ref b10])), (b1, .inr (4, [.ref c1])), (c1, .inl (eI E, 265, .inl f)), (b6, .inr (2, [.ref c6, .int (nI sz)])), (c6, .inl (eI E, 120, .inl tx))] [(0, .ref hB), (1, .int (nI i))] [] 0
  refine r_aload_n C (i := 0) 0 dX5_obeyText_0 rfl rfl ?_
  refine r_get C 0 5 uX5 rfl rfl (by decide) w_1_134 rfl dX5_obeyText_1 ?_
  refine r_iload_n C (i := 1) 1 dX5_obeyText_4 rfl rfl ?_
  refine r_readV (rest := []) C (c_X2_signAt (b6 := b6) (c6 := c6) (sz := sz) (tx := tx) (sg := sg) (i := i) (hT := hT) (hi := (by omega))) lk_X2_signAt w_3_27 [3, 4] rfl dX5_obeyText_5 rfl rfl rfl rfl ⟨by decide, by decide⟩ (Nat.le_of_ble_eq_true rfl) (st' := [.int (nI (sg i))]) rfl ?_
  refine r_st (st' := [.int (nI 115)]) (by rw [hc]) ?_
  refine r_look (off := 181) C 189 dX5_obeyText_8 (by decide) (by decide) (by decide) ?_
  refine r_aload_n C (i := 0) 0 dX5_obeyText_189 rfl rfl ?_
  refine r_get C 0 0 uX5 rfl rfl (by decide) w_1_129 rfl dX5_obeyText_190 ?_
  refine r_aload_n C (i := 0) 0 dX5_obeyText_193 rfl rfl ?_
  refine r_get C 0 5 uX5 rfl rfl (by decide) w_1_134 rfl dX5_obeyText_194 ?_
  refine r_iload_n C (i := 1) 1 dX5_obeyText_197 rfl rfl ?_
  refine r_iconst C dX5_obeyText_198 ki_1 ?_
  refine r_iadd (v := nI (i + 1)) C dX5_obeyText_199 (nI_add _ _) ?_
  refine r_readV (rest := [.ref b1]) C (c_X2_pair (b6 := b6) (c6 := c6) (sz := sz) (tx := tx) (sg := sg) (i := i + 1) (hT := hT) (hi := (by omega)) (hd := (by omega)) (hd2 := (show 48 ≤ sg (i + 2) by omega))) lk_X2_pair w_3_61 [3, 4] rfl dX5_obeyText_200 rfl rfl rfl rfl ⟨by decide, by decide⟩ (Nat.le_of_ble_eq_true rfl) (st' := [.int (nI (10 * (sg (i + 1) - 48) + (sg (i + 2) - 48))), .ref b1]) rfl ?_
  refine r_aload_n C (i := 0) 0 dX5_obeyText_203 rfl rfl ?_
  refine r_get C 0 5 uX5 rfl rfl (by decide) w_1_134 rfl dX5_obeyText_204 ?_
  refine r_iload_n C (i := 1) 1 dX5_obeyText_207 rfl rfl ?_
  refine r_iconst C dX5_obeyText_208 ki_3 ?_
  refine r_iadd (v := nI (i + 3)) C dX5_obeyText_209 (nI_add _ _) ?_
  refine r_readV (rest := [.int (nI (10 * (sg (i + 1) - 48) + (sg (i + 2) - 48))), .ref b1]) C (c_X2_digit (b6 := b6) (c6 := c6) (sz := sz) (tx := tx) (sg := sg) (i := i + 3) (hT := hT) (hi := (by omega)) (hd := (by omega))) lk_X2_digit w_3_28 [3, 4] rfl dX5_obeyText_210 rfl rfl rfl rfl ⟨by decide, by decide⟩ (Nat.le_of_ble_eq_true rfl) (st' := [.int (nI (sg (i + 3) - 48)), .int (nI (10 * (sg (i + 1) - 48) + (sg (i + 2) - 48))), .ref b1]) rfl ?_
  refine r_aload_n C (i := 0) 0 dX5_obeyText_213 rfl rfl ?_
  refine r_get C 0 5 uX5 rfl rfl (by decide) w_1_134 rfl dX5_obeyText_214 ?_
  refine r_iload_n C (i := 1) 1 dX5_obeyText_217 rfl rfl ?_
  refine r_iconst C dX5_obeyText_218 ki_4 ?_
  refine r_iadd (v := nI (i + 4)) C dX5_obeyText_219 (nI_add _ _) ?_
  refine r_readV (rest := [.int (nI (sg (i + 3) - 48)), .int (nI (10 * (sg (i + 1) - 48) + (sg (i + 2) - 48))), .ref b1]) C (c_X2_digit (b6 := b6) (c6 := c6) (sz := sz) (tx := tx) (sg := sg) (i := i + 4) (hT := hT) (hi := (by omega)) (hd := (by omega))) lk_X2_digit w_3_28 [3, 4] rfl dX5_obeyText_220 rfl rfl rfl rfl ⟨by decide, by decide⟩ (Nat.le_of_ble_eq_true rfl) (st' := [.int (nI (sg (i + 4) - 48)), .int (nI (sg (i + 3) - 48)), .int (nI (10 * (sg (i + 1) - 48) + (sg (i + 2) - 48))), .ref b1]) rfl ?_
  refine r_aload_n C (i := 0) 0 dX5_obeyText_223 rfl rfl ?_
  refine r_get C 0 5 uX5 rfl rfl (by decide) w_1_134 rfl dX5_obeyText_224 ?_
  refine r_iload_n C (i := 1) 1 dX5_obeyText_227 rfl rfl ?_
  refine r_iconst C dX5_obeyText_228 ki_5 ?_
  refine r_iadd (v := nI (i + 5)) C dX5_obeyText_229 (nI_add _ _) ?_
  refine r_readV (rest := [.int (nI (sg (i + 4) - 48)), .int (nI (sg (i + 3) - 48)), .int (nI (10 * (sg (i + 1) - 48) + (sg (i + 2) - 48))), .ref b1]) C (c_X2_pair (b6 := b6) (c6 := c6) (sz := sz) (tx := tx) (sg := sg) (i := i + 5) (hT := hT) (hi := (by omega)) (hd := (by omega)) (hd2 := (show 48 ≤ sg (i + 6) by omega))) lk_X2_pair w_3_61 [3, 4] rfl dX5_obeyText_230 rfl rfl rfl rfl ⟨by decide, by decide⟩ (Nat.le_of_ble_eq_true rfl) (st' := [.int (nI (10 * (sg (i + 5) - 48) + (sg (i + 6) - 48))), .int (nI (sg (i + 4) - 48)), .int (nI (sg (i + 3) - 48)), .int (nI (10 * (sg (i + 1) - 48) + (sg (i + 2) - 48))), .ref b1]) rfl ?_
  refine r_callV (rest := []) C (c_X4_addSlip (h0 := b1) (q1 := c1) (f := f) (σ := σ) (n := 10 * (sg (i + 1) - 48) + (sg (i + 2) - 48)) (p := sg (i + 3) - 48) (a := sg (i + 4) - 48) (x := 10 * (sg (i + 5) - 48) + (sg (i + 6) - 48)) (hR := hR) (hW := hW) (hn := (by omega)) (hp := (by omega)) (ha := (by omega)) (hx := (by omega))) lk_X4_addSlip w_3_81 [1, 2] rfl dX5_obeyText_233 rfl rfl rfl rfl ⟨by decide, by decide⟩ (Nat.le_of_ble_eq_true rfl) ?_
  rintro _ _ ⟨f_1, rfl, rfl, hR_2⟩
  have hW_3 : Wf (tSlip σ (10 * (sg (i + 1) - 48) + (sg (i + 2) - 48)) (sg (i + 3) - 48) (sg (i + 4) - 48) (10 * (sg (i + 5) - 48) + (sg (i + 6) - 48))) := tSlip_wf hW
  show ω [(hB, .inr (5, [.ref b1, .ref b2, .ref b3, .ref b4, .ref b5, .ref b6, .ref b7, .ref b8, .ref b9, .ref b10])), (b1, .inr (4, [.ref c1])), (c1, .inl (eI E, 265, .inl f_1)), (b6, .inr (2, [.ref c6, .int (nI sz)])), (c6, .inl (eI E, 120, .inl tx))] [(0, .ref hB), (1, .int (nI i))] [.int (bP ((10 * (sg (i + 1) - 48) + (sg (i + 2) - 48)) < 20 ∧ (sg (i + 3) - 48) < sP σ ∧ (sg (i + 4) - 48) < sA σ ∧ (10 * (sg (i + 5) - 48) + (sg (i + 6) - 48)) < 24 ∧ sS σ < 20))] 236
  exact RT.1 _ _ _ _ _ dX5_obeyText_236 rfl nar_B (⟨_, sv (bP_c (by rw [loL_s hc, if01] <;> first | exact Iff.rfl | omega)), rfl, by rw [opL_s hc]; exact hR_2⟩) rfl
theorem c_X5_obeyText__all {l : Launch} {E : Ev} {hB b1 b2 b3 b4 b5 b6 b7 b8 b9 b10 : Nat} {c1 : Nat} {f : Nat → Int32} {σ : Sg} (hR : RepC σ f) (hW : Wf σ) {c6 sz : Nat} {tx : Nat → Int32} {sg : Nat → Nat} (hT : TxR sg sz tx) {i : Nat} (hi : i < sz) (hok : okC sg sz i) : Ct l E yX5_obeyText cX5_obeyText 2 (some FieldType.boolean) 5 109 [.ref hB, .int (nI i)] [(hB, .inr (5, [.ref b1, .ref b2, .ref b3, .ref b4, .ref b5, .ref b6, .ref b7, .ref b8, .ref b9, .ref b10])), (b1, .inr (4, [.ref c1])), (c1, .inl (eI E, 265, .inl f)), (b6, .inr (2, [.ref c6, .int (nI sz)])), (c6, .inl (eI E, 120, .inl tx))] (fun v9 w9 => ∃ f2 : Nat → Int32, v9 = some (.int (bP (loC σ sg i = 0))) ∧ w9 = [(hB, .inr (5, [.ref b1, .ref b2, .ref b3, .ref b4, .ref b5, .ref b6, .ref b7, .ref b8, .ref b9, .ref b10])), (b1, .inr (4, [.ref c1])), (c1, .inl (eI E, 265, .inl f2)), (b6, .inr (2, [.ref c6, .int (nI sz)])), (c6, .inl (eI E, 120, .inl tx))] ∧ RepC (opC σ sg i) f2) := by
  obtain ⟨hl, hf⟩ := hok
  have hg : ∀ j, j < nD (sg i) → gd sg sz i j := fun j hj => fk_gd (by rw [hf]; exact hj)
  rcases hl with hc | hc | hc | hc | hc | hc
  · rw [nDL_a hc] at hg; exact c_X5_obeyText__a hR hW hT hi hc hg
  · rw [nDL_p hc] at hg; exact c_X5_obeyText__p hR hW hT hi hc hg
  · rw [nDL_c hc] at hg; exact c_X5_obeyText__c hR hW hT hi hc hg
  · rw [nDL_u hc] at hg; exact c_X5_obeyText__u hR hW hT hi hc hg
  · rw [nDL_i hc] at hg; exact c_X5_obeyText__i hR hW hT hi hc hg
  · rw [nDL_s hc] at hg; exact c_X5_obeyText__s hR hW hT hi hc hg
set_option maxRecDepth 100000 in
set_option maxHeartbeats 1000000 in
theorem c_X5_load {l : Launch} {E : Ev} {hB b1 b2 b3 b4 b5 b6 b7 b8 b9 b10 : Nat} {c1 : Nat} {f : Nat → Int32} {σ : Sg} (hR : RepC σ f) (hW : Wf σ) {c3 od cnt : Nat} {K Z : Nat → Int32} {c6 sz : Nat} {tx : Nat → Int32} {sg : Nat → Nat} (hT : TxR sg sz tx) (hx : flt sg sz = 0) : Ct l E yX5_load cX5_load 3 (some FieldType.int) 7 152 [.ref hB] [(hB, .inr (5, [.ref b1, .ref b2, .ref b3, .ref b4, .ref b5, .ref b6, .ref b7, .ref b8, .ref b9, .ref b10])), (b1, .inr (4, [.ref c1])), (c1, .inl (eI E, 265, .inl f)), (b3, .inr (1, [.ref c3, .int (nI od), .int (nI cnt)])), (b5, .inl (eZ E, 2, .inl Z)), (b6, .inr (2, [.ref c6, .int (nI sz)])), (c6, .inl (eI E, 120, .inl tx))] (fun v9 w9 => ∃ f2 Z2 : Nat → Int32, v9 = some (.int (nI (ouC sg (nC sg sz)))) ∧ w9 = [(hB, .inr (5, [.ref b1, .ref b2, .ref b3, .ref b4, .ref b5, .ref b6, .ref b7, .ref b8, .ref b9, .ref b10])), (b1, .inr (4, [.ref c1])), (c1, .inl (eI E, 265, .inl f2)), (b3, .inr (1, [.ref c3, .int (nI 0), .int (nI 0)])), (b5, .inl (eZ E, 2, .inl Z2)), (b6, .inr (2, [.ref c6, .int (nI sz)])), (c6, .inl (eI E, 120, .inl tx))] ∧ RepC (stC sg (nC sg sz)) f2 ∧ KeepC (fun _ => o0) (fun _ => 0) K Z2) := by
  have hwP := hW.P
  have hwA := hW.A
  have hwS := hW.S
  have hTz := hT.1
  refine ct_of (by decide +kernel) (Nat.le_of_ble_eq_true rfl) (fun ω C RT => ?_)
  show ω [(hB, .inr (5, [.ref b1, .ref b2, .ref b3, .ref b4, .ref b5, .ref b6, .ref b7, .ref b8, .ref b9, .ref b10])), (b1, .inr (4, [.ref c1])), (c1, .inl (eI E, 265, .inl f)), (b3, .inr (1, [.ref c3, .int (nI od), .int (nI cnt)])), (b5, .inl (eZ E, 2, .inl Z)), (b6, .inr (2, [.ref c6, .int (nI sz)])), (c6, .inl (eI E, 120, .inl tx))] [(0, .ref hB)] [] 0
  refine r_aload_n C (i := 0) 0 dX5_load_0 rfl rfl ?_
  refine r_get C 0 5 uX5 rfl rfl (by decide) w_1_134 rfl dX5_load_1 ?_
  refine r_readV (rest := []) C (c_X2_firstFault (b6 := b6) (c6 := c6) (sz := sz) (tx := tx) (sg := sg) (hT := hT)) lk_X2_firstFault w_1_176 [5, 6] rfl dX5_load_4 rfl rfl rfl rfl ⟨by decide, by decide⟩ (Nat.le_of_ble_eq_true rfl) (st' := [.int (mI (flt sg sz))]) rfl ?_
  refine r_iconst C dX5_load_7 ki_m1 ?_
  refine r_icmp_eqT C 21 dX5_load_8 (by decide) ((c_eqMM (by omega) (by omega)).mpr (by omega)) ?_
  refine r_aload_n C (i := 0) 0 dX5_load_21 rfl rfl ?_
  refine r_get C 0 0 uX5 rfl rfl (by decide) w_1_129 rfl dX5_load_22 ?_
  refine r_callV (rest := []) C (c_X4_clear (h0 := b1) (q1 := c1) (f := f) ) lk_X4_clear w_3_18 [1, 2] rfl dX5_load_25 rfl rfl rfl rfl ⟨by decide, by decide⟩ (Nat.le_of_ble_eq_true rfl) ?_
  rintro _ _ ⟨f_1, rfl, rfl, hR_2⟩
  show ω [(hB, .inr (5, [.ref b1, .ref b2, .ref b3, .ref b4, .ref b5, .ref b6, .ref b7, .ref b8, .ref b9, .ref b10])), (b1, .inr (4, [.ref c1])), (c1, .inl (eI E, 265, .inl f_1)), (b3, .inr (1, [.ref c3, .int (nI od), .int (nI cnt)])), (b5, .inl (eZ E, 2, .inl Z)), (b6, .inr (2, [.ref c6, .int (nI sz)])), (c6, .inl (eI E, 120, .inl tx))] [(0, .ref hB)] [] 28
  refine r_aload_n C (i := 0) 0 dX5_load_28 rfl rfl ?_
  refine r_get C 0 2 uX5 rfl rfl (by decide) w_1_131 rfl dX5_load_29 ?_
  refine r_callV (rest := []) C (c_X1_forget (hh := b3) (hr := c3) (od := od) (cnt := cnt) ) lk_X1_forget w_3_19 [3] rfl dX5_load_32 rfl rfl rfl rfl ⟨by decide, by decide⟩ (Nat.le_of_ble_eq_true rfl) ?_
  rintro _ _ ⟨rfl, rfl⟩
  show ω [(hB, .inr (5, [.ref b1, .ref b2, .ref b3, .ref b4, .ref b5, .ref b6, .ref b7, .ref b8, .ref b9, .ref b10])), (b1, .inr (4, [.ref c1])), (c1, .inl (eI E, 265, .inl f_1)), (b3, .inr (1, [.ref c3, .int (nI 0), .int (nI 0)])), (b5, .inl (eZ E, 2, .inl Z)), (b6, .inr (2, [.ref c6, .int (nI sz)])), (c6, .inl (eI E, 120, .inl tx))] [(0, .ref hB)] [] 35
  refine r_iconst C dX5_load_35 ki_0 ?_
  refine r_istore_n C (lv' := [(1, .int (nI 0)), (0, .ref hB)]) dX5_load_36 rfl (by decide) rfl ?_
  have loop37_3 : ∀ (dd9 : Nat) (k : Nat) (z2 : Nat → Int32), 2 - k < dd9 → (k ≤ 2) → (∀ j, j < k → z2 j = nI 0) → ω [(hB, .inr (5, [.ref b1, .ref b2, .ref b3, .ref b4, .ref b5, .ref b6, .ref b7, .ref b8, .ref b9, .ref b10])), (b1, .inr (4, [.ref c1])), (c1, .inl (eI E, 265, .inl f_1)), (b3, .inr (1, [.ref c3, .int (nI 0), .int (nI 0)])), (b5, .inl (eZ E, 2, .inl z2)), (b6, .inr (2, [.ref c6, .int (nI sz)])), (c6, .inl (eI E, 120, .inl tx))] [(1, .int (nI k)), (0, .ref hB)] [] 37 := by
    intro dd9
    induction dd9 with
    | zero => intro k z2 hd; exact absurd hd (Nat.not_lt_zero _)
    | succ dd9 ih4 =>
      intro k z2 hd hk hz2
      refine r_iload_n C (i := 1) 0 dX5_load_37 rfl rfl ?_
      refine r_iconst C dX5_load_38 ki_2 ?_
      refine r_icmp_ge C (c9 := 2 ≤ k) 55 dX5_load_39 (by decide) (c_leNN (by omega) (by omega)) (fun h39_5 => ?_) (fun h39_5 => ?_)
      · refine r_iconst C dX5_load_55 ki_0 ?_
        refine r_istore_n C (lv' := [(1, .int (nI 0)), (0, .ref hB)]) dX5_load_56 rfl (by decide) rfl ?_
        refine r_iconst C dX5_load_57 ki_1 ?_
        refine r_istore_n C (lv' := [(2, .int (nI 1)), (1, .int (nI 0)), (0, .ref hB)]) dX5_load_58 rfl (by decide) rfl ?_
        have loop59_6 : ∀ (dd9 : Nat) (c : Nat) (i : Nat) (o : Nat) (f2 : Nat → Int32), sz + 120 - i < dd9 → (i = pos sg c) → (o = ouC sg c) → (RepC (stC sg c) f2) → (Wf (stC sg c)) → (∀ j, j < c → pos sg j < sz ∧ okC sg sz (pos sg j)) → ω [(hB, .inr (5, [.ref b1, .ref b2, .ref b3, .ref b4, .ref b5, .ref b6, .ref b7, .ref b8, .ref b9, .ref b10])), (b1, .inr (4, [.ref c1])), (c1, .inl (eI E, 265, .inl f2)), (b3, .inr (1, [.ref c3, .int (nI 0), .int (nI 0)])), (b5, .inl (eZ E, 2, .inl z2)), (b6, .inr (2, [.ref c6, .int (nI sz)])), (c6, .inl (eI E, 120, .inl tx))] [(2, .int (nI i)), (1, .int (nI o)), (0, .ref hB)] [] 59 := by
          intro dd9
          induction dd9 with
          | zero => intro c i o f2 hd; exact absurd hd (Nat.not_lt_zero _)
          | succ dd9 ih7 =>
            intro c i o f2 hd hi ho hr hw hpr
            have hnd := nD_le (sg i)
            have hpg := pos_ge sg c
            have hcz : i ≤ 130 := by rw [hi]; exact pos_le hT.1 hpr
            have hol := ouC_le sg c
            refine r_iload_n C (i := 2) 0 dX5_load_59 rfl rfl ?_
            refine r_aload_n C (i := 0) 2 dX5_load_60 rfl rfl ?_
            refine r_get C 0 5 uX5 rfl rfl (by decide) w_1_134 rfl dX5_load_61 ?_
            refine r_readV (rest := [.int (nI i)]) C (c_X2_size (b6 := b6) (c6 := c6) (sz := sz) (tx := tx) ) lk_X2_size w_1_164 [5, 6] rfl dX5_load_64 rfl rfl rfl rfl ⟨by decide, by decide⟩ (Nat.le_of_ble_eq_true rfl) (st' := [.int (nI sz), .int (nI i)]) rfl ?_
            refine r_icmp_ge C (c9 := sz ≤ i) 97 dX5_load_67 (by decide) (c_leNN (by omega) (by omega)) (fun h67_8 => ?_) (fun h67_8 => ?_)
            · refine r_iload_n C (i := 1) 1 dX5_load_97 rfl rfl ?_
              exact RT.1 _ _ _ _ _ dX5_load_98 rfl rfl (⟨_, _, sv (congrArg nI (by rw [nC_at (c := c) (Or.inl (by omega)) hpr, ho])), rfl, by rw [nC_at (c := c) (Or.inl (by omega)) hpr]; exact hr, fun j hj => ⟨Nat.zero_le _, hz2 j (by omega), fun z => absurd (show (0 : Nat) = 1 from z) (by decide)⟩⟩) rfl
            · have hok9 : okC sg sz i := by rw [hi]; exact flt0_ok hx hpr (by omega)
              have hlo := loC_le (stC sg c) sg i
              have hi256 := (hT.2 i (by omega)).2
              refine r_aload_n C (i := 0) 2 dX5_load_70 rfl rfl ?_
              refine r_iload_n C (i := 2) 0 dX5_load_71 rfl rfl ?_
              refine r_callV (rest := []) C (c_X5_obeyText__all (hB := hB) (b1 := b1) (b2 := b2) (b3 := b3) (b4 := b4) (b5 := b5) (b6 := b6) (b7 := b7) (b8 := b8) (b9 := b9) (b10 := b10) (c1 := c1) (f := f2) (σ := (stC sg c)) (c6 := c6) (sz := sz) (tx := tx) (sg := sg) (i := i) (hR := hr) (hW := hw) (hT := hT) (hi := (by omega)) (hok := hok9)) lk_X5_obeyText w_3_23 [0, 1, 2, 5, 6] rfl dX5_load_72 rfl rfl rfl rfl ⟨by decide, by decide⟩ (Nat.le_of_ble_eq_true rfl) ?_
              rintro _ _ ⟨f_10, rfl, rfl, hR_11⟩
              have hW_12 : Wf (opC (stC sg c) sg i) := opC_wf hw sg i
              show ω [(hB, .inr (5, [.ref b1, .ref b2, .ref b3, .ref b4, .ref b5, .ref b6, .ref b7, .ref b8, .ref b9, .ref b10])), (b1, .inr (4, [.ref c1])), (c1, .inl (eI E, 265, .inl f_10)), (b3, .inr (1, [.ref c3, .int (nI 0), .int (nI 0)])), (b5, .inl (eZ E, 2, .inl z2)), (b6, .inr (2, [.ref c6, .int (nI sz)])), (c6, .inl (eI E, 120, .inl tx))] [(2, .int (nI i)), (1, .int (nI o)), (0, .ref hB)] [.int (bP (loC (stC sg c) sg i = 0))] 75
              refine r_if_ne C (y := 0) (c9 := loC (stC sg c) sg i = 0) 81 dX5_load_75 (by decide) z_neB (fun h75_13 => ?_) (fun h75_13 => ?_)
              · refine r_iload_n C (i := 2) 0 dX5_load_81 rfl rfl ?_
                refine r_iconst C dX5_load_82 ki_1 ?_
                refine r_aload_n C (i := 0) 2 dX5_load_83 rfl rfl ?_
                refine r_get C 0 5 uX5 rfl rfl (by decide) w_1_134 rfl dX5_load_84 ?_
                refine r_iload_n C (i := 2) 0 dX5_load_87 rfl rfl ?_
                refine r_readV (rest := [.int (nI 1), .int (nI i)]) C (c_X2_digitsBehind (b6 := b6) (c6 := c6) (sz := sz) (tx := tx) (sg := sg) (i := i) (hT := hT) (hi := (by omega))) lk_X2_digitsBehind w_3_89 [5, 6] rfl dX5_load_88 rfl rfl rfl rfl ⟨by decide, by decide⟩ (Nat.le_of_ble_eq_true rfl) (st' := [.int (nI (nD (sg i))), .int (nI 1), .int (nI i)]) rfl ?_
                refine r_iadd (v := nI (1 + nD (sg i))) C dX5_load_91 (nI_add _ _) ?_
                refine r_iadd (v := nI (i + 1 + nD (sg i))) C dX5_load_92 ((nI_add _ _).trans (congrArg nI (by omega))) ?_
                refine r_istore_n C (lv' := [(2, .int (nI (i + 1 + nD (sg i)))), (1, .int (nI o)), (0, .ref hB)]) dX5_load_93 rfl (by decide) rfl ?_
                refine r_goto C 59 dX5_load_94 (by decide) ?_
                exact ih7 (c + 1) (i + 1 + nD (sg i)) o f_10 (by omega) (by rw [pos, ← hi]) (by rw [ouC, ← hi]; omega) (by rw [stC, ← hi]; exact hR_11) (stC_wf sg (c + 1)) (lt_step hpr (by rw [← hi]; exact ⟨by omega, hok9⟩))
              · refine r_iinc C (lv' := [(1, .int (nI (o + 1))), (2, .int (nI i)), (0, .ref hB)]) (v := nI (o + 1)) 1 dX5_load_78 rfl (v_inc _) (by decide) rfl ?_
                refine r_iload_n C (i := 2) 1 dX5_load_81 rfl rfl ?_
                refine r_iconst C dX5_load_82 ki_1 ?_
                refine r_aload_n C (i := 0) 2 dX5_load_83 rfl rfl ?_
                refine r_get C 0 5 uX5 rfl rfl (by decide) w_1_134 rfl dX5_load_84 ?_
                refine r_iload_n C (i := 2) 1 dX5_load_87 rfl rfl ?_
                refine r_readV (rest := [.int (nI 1), .int (nI i)]) C (c_X2_digitsBehind (b6 := b6) (c6 := c6) (sz := sz) (tx := tx) (sg := sg) (i := i) (hT := hT) (hi := (by omega))) lk_X2_digitsBehind w_3_89 [5, 6] rfl dX5_load_88 rfl rfl rfl rfl ⟨by decide, by decide⟩ (Nat.le_of_ble_eq_true rfl) (st' := [.int (nI (nD (sg i))), .int (nI 1), .int (nI i)]) rfl ?_
                refine r_iadd (v := nI (1 + nD (sg i))) C dX5_load_91 (nI_add _ _) ?_
                refine r_iadd (v := nI (i + 1 + nD (sg i))) C dX5_load_92 ((nI_add _ _).trans (congrArg nI (by omega))) ?_
                refine r_istore_n C (lv' := [(2, .int (nI (i + 1 + nD (sg i)))), (1, .int (nI (o + 1))), (0, .ref hB)]) dX5_load_93 rfl (by decide) rfl ?_
                refine r_goto C 59 dX5_load_94 (by decide) ?_
                exact ih7 (c + 1) (i + 1 + nD (sg i)) (o + 1) f_10 (by omega) (by rw [pos, ← hi]) (by rw [ouC, ← hi]; omega) (by rw [stC, ← hi]; exact hR_11) (stC_wf sg (c + 1)) (lt_step hpr (by rw [← hi]; exact ⟨by omega, hok9⟩))
        exact loop59_6 _ 0 1 0 f_1 (Nat.lt_succ_self _) rfl rfl hR_2 o0_wf (fun j hj => absurd hj (Nat.not_lt_zero j))
      · refine r_aload_n C (i := 0) 1 dX5_load_42 rfl rfl ?_
        refine r_get C 0 4 uX5 rfl rfl (by decide) w_1_133 rfl dX5_load_43 ?_
        refine r_iload_n C (i := 1) 0 dX5_load_46 rfl rfl ?_
        refine r_iconst C dX5_load_47 ki_0 ?_
        refine r_zast (j := k) (ws' := [(hB, .inr (5, [.ref b1, .ref b2, .ref b3, .ref b4, .ref b5, .ref b6, .ref b7, .ref b8, .ref b9, .ref b10])), (b1, .inr (4, [.ref c1])), (c1, .inl (eI E, 265, .inl f_1)), (b3, .inr (1, [.ref c3, .int (nI 0), .int (nI 0)])), (b5, .inl (eZ E, 2, .inl (upd z2 k (nI 0)))), (b6, .inr (2, [.ref c6, .int (nI sz)])), (c6, .inl (eI E, 120, .inl tx))]) C 4 rfl (by omega) (by decide) vnar_0 rfl dX5_load_48 ?_
        refine r_iinc C (lv' := [(1, .int (nI (k + 1))), (0, .ref hB)]) (v := nI (k + 1)) 0 dX5_load_49 rfl (v_inc _) (by decide) rfl ?_
        refine r_goto C 37 dX5_load_52 (by decide) ?_
        exact ih4 (k + 1) (upd z2 k (nI 0)) (by omega) (by omega) (lt_step (fun j hj => (pk_un (by omega)).trans (hz2 j hj)) pk_us)
  exact loop37_3 _ 0 Z (Nat.lt_succ_self _) (by omega) (fun j hj => absurd hj (Nat.not_lt_zero j))
