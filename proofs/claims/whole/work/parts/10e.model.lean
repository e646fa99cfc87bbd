def HistM (hs : Nat → Sg) (ac : Nat) (D : Nat → Int32) : Prop := ac ≤ 14 ∧ ∀ k, k < ac → Wf (hs k) ∧ RepM (hs k) (fun j => D (255 * k + j))
def pushN (ac : Nat) : Nat := if ac = 14 then 14 else ac + 1
def pushH (hs : Nat → Sg) (ac : Nat) (σ : Sg) : Nat → Sg := if ac = 14 then (fun k => if k = 13 then σ else hs (k + 1)) else (fun k => if k = ac then σ else hs k)
theorem HistM_p {hs : Nat → Sg} {ac : Nat} {D g : Nat → Int32} {σ : Sg} (h : HistM hs ac D) (hne : ac ≠ 14) (hW : Wf σ) (hR : RepM σ g) : HistM (pushH hs ac σ) (ac + 1) (va_cpy g D 0 (255 * ac) 255) := by
  have h1 := h.1
  refine ⟨by omega, fun k hk => ?_⟩
  unfold pushH
  rw [if_neg hne]
  by_cases e : k = ac
  · rw [if_pos e]
    refine ⟨hW, RepM_eq hW hR (fun j hj => ?_)⟩
    show va_cpy g D 0 (255 * ac) 255 (255 * k + j) = g j
    unfold va_cpy
    rw [if_pos (by omega)]; congr 1; omega
  · rw [if_neg e]
    obtain ⟨h2, h3⟩ := h.2 k (by omega)
    refine ⟨h2, RepM_eq h2 h3 (fun j hj => ?_)⟩
    show va_cpy g D 0 (255 * ac) 255 (255 * k + j) = D (255 * k + j)
    unfold va_cpy
    rw [if_neg (by omega)]
theorem HistM_s {hs : Nat → Sg} {D g : Nat → Int32} {σ : Sg} (h : HistM hs 14 D) (hW : Wf σ) (hR : RepM σ g) : HistM (pushH hs 14 σ) 14 (va_cpy g (shiftF D 0 3315 255) 0 3315 255) := by
  refine ⟨Nat.le_refl _, fun k hk => ?_⟩
  unfold pushH
  rw [if_pos rfl]
  by_cases e : k = 13
  · rw [if_pos e]
    refine ⟨hW, RepM_eq hW hR (fun j hj => ?_)⟩
    show va_cpy g (shiftF D 0 3315 255) 0 3315 255 (255 * k + j) = g j
    unfold va_cpy
    rw [if_pos (by omega), show 0 + (255 * k + j - 3315) = j from by omega]
  · rw [if_neg e]
    obtain ⟨h2, h3⟩ := h.2 (k + 1) (by omega)
    refine ⟨h2, RepM_eq h2 h3 (fun j hj => ?_)⟩
    show va_cpy g (shiftF D 0 3315 255) 0 3315 255 (255 * k + j) = D (255 * (k + 1) + j)
    unfold va_cpy shiftF
    rw [if_neg (by omega), if_pos (by omega)]; congr 1; omega
theorem pushN_le (ac : Nat) (h : ac ≤ 14) : pushN ac ≤ 14 := by unfold pushN; split <;> omega
set_option maxRecDepth 100000 in
set_option maxHeartbeats 1000000 in
theorem c_X6_remember {l : Launch} {E : Ev} {hM rf x1 sz x3 x4 x5 ac x7 x8 x9 x10 x11 sp ou : Nat} {g : Nat → Int32} {σ : Sg} (hR : RepM σ g) (hW : Wf σ) {hs : Nat → Sg} {D : Nat → Int32} (hH : HistM hs ac D) : Ct l E yX6_remember cX6_remember 2 none 1 24 [.ref hM] [(hM, .inr (6, [.int (nI rf), .ref x1, .int (nI sz), .ref x3, .ref x4, .ref x5, .int (nI ac), .ref x7, .ref x8, .ref x9, .ref x10, .ref x11, .int (nI sp), .int (nI ou)])), (x3, .inl (eI E, 255, .inl g)), (x5, .inl (eI E, 3570, .inl D))] (fun v9 w9 => ∃ D2 : Nat → Int32, v9 = none ∧ w9 = [(hM, .inr (6, [.int (nI rf), .ref x1, .int (nI sz), .ref x3, .ref x4, .ref x5, .int (nI (pushN ac)), .ref x7, .ref x8, .ref x9, .ref x10, .ref x11, .int (nI sp), .int (nI ou)])), (x3, .inl (eI E, 255, .inl g)), (x5, .inl (eI E, 3570, .inl D2))] ∧ HistM (pushH hs ac σ) (pushN ac) D2) := by
  have hwP := hW.P
  have hwA := hW.A
  have hwS := hW.S
  have hac := hH.1
  refine ct_of (by decide +kernel) (Nat.le_of_ble_eq_true rfl) (fun ω C RT => ?_)
  show ω [(hM, .inr (6, [.int (nI rf), .ref x1, .int (nI sz), .ref x3, .ref x4, .ref x5, .int (nI ac), .ref x7, .ref x8, .ref x9, .ref x10, .ref x11, .int (nI sp), .int (nI ou)])), (x3, .inl (eI E, 255, .inl g)), (x5, .inl (eI E, 3570, .inl D))] [(0, .ref hM)] [] 0
  refine r_aload_n C (i := 0) 0 dX6_remember_0 rfl rfl ?_
  refine r_get C 0 6 uX6 rfl rfl (by decide) w_5_67 rfl dX6_remember_1 ?_
  refine r_bipush C dX6_remember_4 kb_14 ?_
  refine r_icmp_ne C (c9 := ac ≠ 14) 50 dX6_remember_6 (by decide) (c_neNN (by omega) (by omega)) (fun h6_1 => ?_) (fun h6_1 => ?_)
  · refine r_aload_n C (i := 0) 0 dX6_remember_50 rfl rfl ?_
    refine r_get C 0 3 uX6 rfl rfl (by decide) w_5_64 rfl dX6_remember_51 ?_
    refine r_iconst C dX6_remember_54 ki_0 ?_
    refine r_aload_n C (i := 0) 0 dX6_remember_55 rfl rfl ?_
    refine r_get C 0 5 uX6 rfl rfl (by decide) w_5_66 rfl dX6_remember_56 ?_
    refine r_sipush C dX6_remember_59 ks_255 ?_
    refine r_aload_n C (i := 0) 0 dX6_remember_62 rfl rfl ?_
    refine r_get C 0 6 uX6 rfl rfl (by decide) w_5_67 rfl dX6_remember_63 ?_
    refine r_imul (v := nI (255 * ac)) C dX6_remember_66 (pk_mul _ _) ?_
    refine r_callS (rest := []) C (c_X6_copyState__255_3570 (q2 := x3) (q3 := x5) (fa := 0) (ta := 255 * ac) (F := g) (F2 := D) (hf := (by omega)) (ht := (by omega))) lk_X6_copyState w_5_196 [1, 2] dX6_remember_67 rfl rfl rfl ⟨by decide, by decide⟩ (Nat.le_of_ble_eq_true rfl) ?_
    rintro _ _ ⟨rfl, rfl⟩
    show ω [(hM, .inr (6, [.int (nI rf), .ref x1, .int (nI sz), .ref x3, .ref x4, .ref x5, .int (nI ac), .ref x7, .ref x8, .ref x9, .ref x10, .ref x11, .int (nI sp), .int (nI ou)])), (x3, .inl (eI E, 255, .inl g)), (x5, .inl (eI E, 3570, .inl (va_cpy g D 0 (255 * ac) 255)))] [(0, .ref hM)] [] 70
    refine r_aload_n C (i := 0) 0 dX6_remember_70 rfl rfl ?_
    refine r_dup C dX6_remember_71 rfl ?_
    refine r_get C 0 6 uX6 rfl rfl (by decide) w_5_67 rfl dX6_remember_72 ?_
    refine r_iconst C dX6_remember_75 ki_1 ?_
    refine r_iadd (v := nI (ac + 1)) C dX6_remember_76 (nI_add _ _) ?_
    refine r_put (ws' := [(hM, .inr (6, [.int (nI rf), .ref x1, .int (nI sz), .ref x3, .ref x4, .ref x5, .int (nI (ac + 1)), .ref x7, .ref x8, .ref x9, .ref x10, .ref x11, .int (nI sp), .int (nI ou)])), (x3, .inl (eI E, 255, .inl g)), (x5, .inl (eI E, 3570, .inl (va_cpy g D 0 (255 * ac) 255)))]) C 0 6 uX6 rfl tyX6_ok nmX6 rfl (by decide) w_5_67 rfl (tyX6_ok 6 (by decide)) rfl rfl (Nat.le_of_ble_eq_true rfl) rfl dX6_remember_77 ?_
    exact RT.2.2.1 _ _ _ dX6_remember_80 rfl (⟨_, rfl, by rw [show pushN ac = ac + 1 from if_neg h6_1], by rw [show pushN ac = ac + 1 from if_neg h6_1]; exact HistM_p hH h6_1 hW hR⟩) rfl
  · refine r_iconst C dX6_remember_9 ki_0 ?_
    refine r_istore_n C (lv' := [(1, .int (nI 0)), (0, .ref hM)]) dX6_remember_10 rfl (by decide) rfl ?_
    have loop11_2 : ∀ (dd9 : Nat) (k : Nat) (D2 : Nat → Int32), 3315 - k < dd9 → (k ≤ 3315) → (D2 = shiftF D 0 k 255) → ω [(hM, .inr (6, [.int (nI rf), .ref x1, .int (nI sz), .ref x3, .ref x4, .ref x5, .int (nI ac), .ref x7, .ref x8, .ref x9, .ref x10, .ref x11, .int (nI sp), .int (nI ou)])), (x3, .inl (eI E, 255, .inl g)), (x5, .inl (eI E, 3570, .inl D2))] [(1, .int (nI k)), (0, .ref hM)] [] 11 := by
      intro dd9
      induction dd9 with
      | zero => intro k D2 hd; exact absurd hd (Nat.not_lt_zero _)
      | succ dd9 ih3 =>
        intro k D2 hd hk hd
        refine r_iload_n C (i := 1) 0 dX6_remember_11 rfl rfl ?_
        refine r_sipush C dX6_remember_12 ks_3315 ?_
        refine r_icmp_ge C (c9 := 3315 ≤ k) 40 dX6_remember_15 (by decide) (c_leNN (by omega) (by omega)) (fun h15_4 => ?_) (fun h15_4 => ?_)
        · refine r_aload_n C (i := 0) 1 dX6_remember_40 rfl rfl ?_
          refine r_dup C dX6_remember_41 rfl ?_
          refine r_get C 0 6 uX6 rfl rfl (by decide) w_5_67 rfl dX6_remember_42 ?_
          refine r_iconst C dX6_remember_45 ki_1 ?_
          refine r_isub (v := nI (ac - 1)) C dX6_remember_46 (v_sub (by omega)) ?_
          refine r_put (ws' := [(hM, .inr (6, [.int (nI rf), .ref x1, .int (nI sz), .ref x3, .ref x4, .ref x5, .int (nI (ac - 1)), .ref x7, .ref x8, .ref x9, .ref x10, .ref x11, .int (nI sp), .int (nI ou)])), (x3, .inl (eI E, 255, .inl g)), (x5, .inl (eI E, 3570, .inl D2))]) C 0 6 uX6 rfl tyX6_ok nmX6 rfl (by decide) w_5_67 rfl (tyX6_ok 6 (by decide)) rfl rfl (Nat.le_of_ble_eq_true rfl) rfl dX6_remember_47 ?_
          refine r_aload_n C (i := 0) 1 dX6_remember_50 rfl rfl ?_
          refine r_get C 0 3 uX6 rfl rfl (by decide) w_5_64 rfl dX6_remember_51 ?_
          refine r_iconst C dX6_remember_54 ki_0 ?_
          refine r_aload_n C (i := 0) 1 dX6_remember_55 rfl rfl ?_
          refine r_get C 0 5 uX6 rfl rfl (by decide) w_5_66 rfl dX6_remember_56 ?_
          refine r_sipush C dX6_remember_59 ks_255 ?_
          refine r_aload_n C (i := 0) 1 dX6_remember_62 rfl rfl ?_
          refine r_get C 0 6 uX6 rfl rfl (by decide) w_5_67 rfl dX6_remember_63 ?_
          refine r_imul (v := nI (255 * (ac - 1))) C dX6_remember_66 (pk_mul _ _) ?_
          refine r_callS (rest := []) C (c_X6_copyState__255_3570 (q2 := x3) (q3 := x5) (fa := 0) (ta := 255 * (ac - 1)) (F := g) (F2 := D2) (hf := (by omega)) (ht := (by omega))) lk_X6_copyState w_5_196 [1, 2] dX6_remember_67 rfl rfl rfl ⟨by decide, by decide⟩ (Nat.le_of_ble_eq_true rfl) ?_
          rintro _ _ ⟨rfl, rfl⟩
          show ω [(hM, .inr (6, [.int (nI rf), .ref x1, .int (nI sz), .ref x3, .ref x4, .ref x5, .int (nI (ac - 1)), .ref x7, .ref x8, .ref x9, .ref x10, .ref x11, .int (nI sp), .int (nI ou)])), (x3, .inl (eI E, 255, .inl g)), (x5, .inl (eI E, 3570, .inl (va_cpy g D2 0 (255 * (ac - 1)) 255)))] [(1, .int (nI k)), (0, .ref hM)] [] 70
          refine r_aload_n C (i := 0) 1 dX6_remember_70 rfl rfl ?_
          refine r_dup C dX6_remember_71 rfl ?_
          refine r_get C 0 6 uX6 rfl rfl (by decide) w_5_67 rfl dX6_remember_72 ?_
          refine r_iconst C dX6_remember_75 ki_1 ?_
          refine r_iadd (v := nI ((ac - 1) + 1)) C dX6_remember_76 (nI_add _ _) ?_
          refine r_put (ws' := [(hM, .inr (6, [.int (nI rf), .ref x1, .int (nI sz), .ref x3, .ref x4, .ref x5, .int (nI ((ac - 1) + 1)), .ref x7, .ref x8, .ref x9, .ref x10, .ref x11, .int (nI sp), .int (nI ou)])), (x3, .inl (eI E, 255, .inl g)), (x5, .inl (eI E, 3570, .inl (va_cpy g D2 0 (255 * (ac - 1)) 255)))]) C 0 6 uX6 rfl tyX6_ok nmX6 rfl (by decide) w_5_67 rfl (tyX6_ok 6 (by decide)) rfl rfl (Nat.le_of_ble_eq_true rfl) rfl dX6_remember_77 ?_
          exact RT.2.2.1 _ _ _ dX6_remember_80 rfl (⟨_, rfl, by obtain rfl : ac = 14 := (by omega); rfl, by obtain rfl : ac = 14 := (by omega); rw [hd, (by omega : k = 3315)]; exact HistM_s hH hW hR⟩) rfl
        · refine r_aload_n C (i := 0) 1 dX6_remember_18 rfl rfl ?_
          refine r_get C 0 5 uX6 rfl rfl (by decide) w_5_66 rfl dX6_remember_19 ?_
          refine r_iload_n C (i := 1) 0 dX6_remember_22 rfl rfl ?_
          refine r_aload_n C (i := 0) 1 dX6_remember_23 rfl rfl ?_
          refine r_get C 0 5 uX6 rfl rfl (by decide) w_5_66 rfl dX6_remember_24 ?_
          refine r_iload_n C (i := 1) 0 dX6_remember_27 rfl rfl ?_
          refine r_sipush C dX6_remember_28 ks_255 ?_
          refine r_iadd (v := nI (k + 255)) C dX6_remember_31 (nI_add _ _) ?_
          refine r_iald (j := k + 255) (v := D (k + 255)) C 2 rfl (by omega) (by decide) (by rw [hd]; exact shiftF_at (by omega)) dX6_remember_32 ?_
          refine r_iast (j := k) (ws' := [(hM, .inr (6, [.int (nI rf), .ref x1, .int (nI sz), .ref x3, .ref x4, .ref x5, .int (nI ac), .ref x7, .ref x8, .ref x9, .ref x10, .ref x11, .int (nI sp), .int (nI ou)])), (x3, .inl (eI E, 255, .inl g)), (x5, .inl (eI E, 3570, .inl (upd D2 k (D (k + 255)))))]) C 2 rfl (by omega) (by decide) rfl dX6_remember_33 ?_
          refine r_iinc C (lv' := [(1, .int (nI (k + 1))), (0, .ref hM)]) (v := nI (k + 1)) 0 dX6_remember_34 rfl (v_inc _) (by decide) rfl ?_
          refine r_goto C 11 dX6_remember_37 (by decide) ?_
          exact ih3 (k + 1) (upd D2 k (D (k + 255))) (by omega) (by omega) (by rw [hd]; exact shiftF_s (by omega))
    exact loop11_2 _ 0 D (Nat.lt_succ_self _) (by omega) (shiftF_0 _ _ _)
set_option maxRecDepth 100000 in
set_option maxHeartbeats 1000000 in
theorem c_X6_addActor {l : Launch} {E : Ev} {hM rf x1 sz x3 x4 x5 ac x7 x8 x9 x10 x11 sp ou : Nat} {g : Nat → Int32} {σ : Sg} (hR : RepM σ g) (hW : Wf σ) {hs : Nat → Sg} {D : Nat → Int32} (hH : HistM hs ac D) {x : Nat} (hx : x ≤ 9) (hA : sA σ < 10) : Ct l E yX6_addActor cX6_addActor 2 (some FieldType.int) 2 45 [.ref hM, .int (nI x)] [(hM, .inr (6, [.int (nI rf), .ref x1, .int (nI sz), .ref x3, .ref x4, .ref x5, .int (nI ac), .ref x7, .ref x8, .ref x9, .ref x10, .ref x11, .int (nI sp), .int (nI ou)])), (x3, .inl (eI E, 255, .inl g)), (x5, .inl (eI E, 3570, .inl D))] (fun v9 w9 => ∃ g2 D2 : Nat → Int32, v9 = some (.int (nI (sA σ))) ∧ w9 = [(hM, .inr (6, [.int (nI 0), .ref x1, .int (nI sz), .ref x3, .ref x4, .ref x5, .int (nI (pushN ac)), .ref x7, .ref x8, .ref x9, .ref x10, .ref x11, .int (nI sp), .int (nI ou)])), (x3, .inl (eI E, 255, .inl g2)), (x5, .inl (eI E, 3570, .inl D2))] ∧ RepM (oHire σ x) g2 ∧ HistM (pushH hs ac σ) (pushN ac) D2) := by
  have hwP := hW.P
  have hwA := hW.A
  have hwS := hW.S
  refine ct_of (by decide +kernel) (Nat.le_of_ble_eq_true rfl) (fun ω C RT => ?_)
  show ω [(hM, .inr (6, [.int (nI rf), .ref x1, .int (nI sz), .ref x3, .ref x4, .ref x5, .int (nI ac), .ref x7, .ref x8, .ref x9, .ref x10, .ref x11, .int (nI sp), .int (nI ou)])), (x3, .inl (eI E, 255, .inl g)), (x5, .inl (eI E, 3570, .inl D))] [(0, .ref hM), (1, .int (nI x))] [] 0
  refine r_aload_n C (i := 0) 0 dX6_addActor_0 rfl rfl ?_
  refine r_iload_n C (i := 1) 1 dX6_addActor_1 rfl rfl ?_
  refine r_i2l (v := lN x) C dX6_addActor_2 (v_i2l (by omega)) ?_
  refine r_lconst (v := lN 0) C dX6_addActor_3 (by decide +kernel) ?_
  refine r_ldc2 (v := lN 9) C dX6_addActor_4 w_5_140 ?_
  refine r_readS (rest := [.ref hM]) C (c_X6_in (v := lN x) (lw := lN 0) (hg := lN 9)) lk_X6_in w_5_113 [] dX6_addActor_7 rfl rfl rfl ⟨by decide, by decide⟩ (Nat.le_of_ble_eq_true rfl) (st' := [.int (bP (lN 0 ≤ lN x ∧ lN x ≤ lN 9)), .ref hM]) rfl ?_
  refine r_st (st' := [.int (bP (x ≤ 9)), .ref hM]) (by rw [bP_c (in_N (by omega) (by omega))]) ?_
  refine r_if_ne C (y := 0) (c9 := x ≤ 9) 17 dX6_addActor_10 (by decide) z_neB (fun h10_1 => ?_) (fun h10_1 => ?_)
  · refine r_aload_n C (i := 0) 0 dX6_addActor_17 rfl rfl ?_
    refine r_get C 0 3 uX6 rfl rfl (by decide) w_5_64 rfl dX6_addActor_18 ?_
    refine r_iconst C dX6_addActor_21 ki_1 ?_
    refine r_iald (j := 1) (v := nI (sA σ)) C 1 rfl (by omega) (by decide) hR.A dX6_addActor_22 ?_
    refine r_bipush C dX6_addActor_23 kb_10 ?_
    refine r_icmp_ge C (c9 := 10 ≤ sA σ) 32 dX6_addActor_25 (by decide) (c_leNN (by omega) (by omega)) (fun h25_2 => ?_) (fun h25_2 => ?_)
    · refine r_iconst C dX6_addActor_32 ki_2 ?_
      first | (exfalso; omega) | (exfalso; simp_all; done)
    · refine r_iconst C dX6_addActor_28 ki_0 ?_
      refine r_goto C 33 dX6_addActor_29 (by decide) ?_
      refine r_callV (rest := []) C (c_X6_refused (hM := hM) (rf := rf) (x1 := x1) (sz := sz) (x3 := x3) (x4 := x4) (x5 := x5) (ac := ac) (x7 := x7) (x8 := x8) (x9 := x9) (x10 := x10) (x11 := x11) (sp := sp) (ou := ou) (w := 0) (hw := (by omega))) lk_X6_refused w_5_116 [0] rfl dX6_addActor_33 rfl rfl rfl rfl ⟨by decide, by decide⟩ (Nat.le_of_ble_eq_true rfl) ?_
      rintro _ _ ⟨rfl, rfl⟩
      show ω [(hM, .inr (6, [.int (nI 0), .ref x1, .int (nI sz), .ref x3, .ref x4, .ref x5, .int (nI ac), .ref x7, .ref x8, .ref x9, .ref x10, .ref x11, .int (nI sp), .int (nI ou)])), (x3, .inl (eI E, 255, .inl g)), (x5, .inl (eI E, 3570, .inl D))] [(0, .ref hM), (1, .int (nI x))] [.int (bP (0 < 0))] 36
      refine r_if_eqT C (y := 0) 41 dX6_addActor_36 (by decide) (z_eqB.mpr (by decide)) ?_
      refine r_aload_n C (i := 0) 0 dX6_addActor_41 rfl rfl ?_
      refine r_callV (rest := []) C (c_X6_remember (hM := hM) (rf := 0) (x1 := x1) (sz := sz) (x3 := x3) (x4 := x4) (x5 := x5) (ac := ac) (x7 := x7) (x8 := x8) (x9 := x9) (x10 := x10) (x11 := x11) (sp := sp) (ou := ou) (g := g) (σ := σ) (hs := hs) (D := D) (hR := hR) (hW := hW) (hH := hH)) lk_X6_remember w_6_54 [0, 1, 2] rfl dX6_addActor_42 rfl rfl rfl rfl ⟨by decide, by decide⟩ (Nat.le_of_ble_eq_true rfl) ?_
      rintro _ _ ⟨D_3, rfl, rfl, hH_4⟩
      show ω [(hM, .inr (6, [.int (nI 0), .ref x1, .int (nI sz), .ref x3, .ref x4, .ref x5, .int (nI (pushN ac)), .ref x7, .ref x8, .ref x9, .ref x10, .ref x11, .int (nI sp), .int (nI ou)])), (x3, .inl (eI E, 255, .inl g)), (x5, .inl (eI E, 3570, .inl D_3))] [(0, .ref hM), (1, .int (nI x))] [] 45
      refine r_aload_n C (i := 0) 0 dX6_addActor_45 rfl rfl ?_
      refine r_get C 0 3 uX6 rfl rfl (by decide) w_5_64 rfl dX6_addActor_46 ?_
      refine r_iload_n C (i := 1) 1 dX6_addActor_49 rfl rfl ?_
      refine r_callS (rest := []) C (c_X6_actorOn (r := x3) (g := g) (σ := σ) (x := x) (hR := hR) (hW := hW) (hx := (by omega)) (hA := (by omega))) lk_X6_actorOn w_5_141 [1] dX6_addActor_50 rfl rfl rfl ⟨by decide, by decide⟩ (Nat.le_of_ble_eq_true rfl) ?_
      rintro _ _ ⟨g_5, rfl, rfl, hR_6⟩
      have hW_7 : Wf (oHire σ x) := oHire_wf hW (by omega) (by omega)
      show ω [(hM, .inr (6, [.int (nI 0), .ref x1, .int (nI sz), .ref x3, .ref x4, .ref x5, .int (nI (pushN ac)), .ref x7, .ref x8, .ref x9, .ref x10, .ref x11, .int (nI sp), .int (nI ou)])), (x3, .inl (eI E, 255, .inl g_5)), (x5, .inl (eI E, 3570, .inl D_3))] [(0, .ref hM), (1, .int (nI x))] [.int (nI (sA σ))] 53
      exact RT.1 _ _ _ _ _ dX6_addActor_53 rfl rfl (⟨_, _, rfl, rfl, hR_6, hH_4⟩) rfl
  · refine r_iconst C dX6_addActor_13 ki_1 ?_
    refine r_goto C 33 dX6_addActor_14 (by decide) ?_
    first | (exfalso; omega) | (exfalso; simp_all; done)
set_option maxRecDepth 100000 in
set_option maxHeartbeats 1000000 in
theorem c_X6_addActor__x1 {l : Launch} {E : Ev} {hM rf x1 sz x3 x4 x5 ac x7 x8 x9 x10 x11 sp ou : Nat} {g : Nat → Int32} {σ : Sg} (hR : RepM σ g) (hW : Wf σ) {x : Int32} (hx : ¬ vI x 10) : Ct l E yX6_addActor cX6_addActor 2 (some FieldType.int) 2 45 [.ref hM, .int x] [(hM, .inr (6, [.int (nI rf), .ref x1, .int (nI sz), .ref x3, .ref x4, .ref x5, .int (nI ac), .ref x7, .ref x8, .ref x9, .ref x10, .ref x11, .int (nI sp), .int (nI ou)])), (x3, .inl (eI E, 255, .inl g))] (fun v9 w9 => v9 = some (.int (nI 0)) ∧ w9 = [(hM, .inr (6, [.int (nI 1), .ref x1, .int (nI sz), .ref x3, .ref x4, .ref x5, .int (nI ac), .ref x7, .ref x8, .ref x9, .ref x10, .ref x11, .int (nI sp), .int (nI ou)])), (x3, .inl (eI E, 255, .inl g))]) := by
  have hwP := hW.P
  have hwA := hW.A
  have hwS := hW.S
  refine ct_of (by decide +kernel) (Nat.le_of_ble_eq_true rfl) (fun ω C RT => ?_)
  show ω [(hM, .inr (6, [.int (nI rf), .ref x1, .int (nI sz), .ref x3, .ref x4, .ref x5, .int (nI ac), .ref x7, .ref x8, .ref x9, .ref x10, .ref x11, .int (nI sp), .int (nI ou)])), (x3, .inl (eI E, 255, .inl g))] [(0, .ref hM), (1, .int x)] [] 0
  refine r_aload_n C (i := 0) 0 dX6_addActor_0 rfl rfl ?_
  refine r_iload_n C (i := 1) 1 dX6_addActor_1 rfl rfl ?_
  refine r_i2l (v := (x).toInt64) C dX6_addActor_2 rfl ?_
  refine r_lconst (v := lN 0) C dX6_addActor_3 (by decide +kernel) ?_
  refine r_ldc2 (v := lN 9) C dX6_addActor_4 w_5_140 ?_
  refine r_readS (rest := [.ref hM]) C (c_X6_in (v := (x).toInt64) (lw := lN 0) (hg := lN 9)) lk_X6_in w_5_113 [] dX6_addActor_7 rfl rfl rfl ⟨by decide, by decide⟩ (Nat.le_of_ble_eq_true rfl) (st' := [.int (bP (lN 0 ≤ (x).toInt64 ∧ (x).toInt64 ≤ lN 9)), .ref hM]) rfl ?_
  refine r_st (st' := [.int (bP (vI x (10))), .ref hM]) (by rw [bP_c (in_r (by omega))]) ?_
  refine r_if_ne C (y := 0) (c9 := vI x (10)) 17 dX6_addActor_10 (by decide) z_neB (fun h10_1 => ?_) (fun h10_1 => ?_)
  · refine r_aload_n C (i := 0) 0 dX6_addActor_17 rfl rfl ?_
    refine r_get C 0 3 uX6 rfl rfl (by decide) w_5_64 rfl dX6_addActor_18 ?_
    refine r_iconst C dX6_addActor_21 ki_1 ?_
    refine r_iald (j := 1) (v := nI (sA σ)) C 1 rfl (by omega) (by decide) hR.A dX6_addActor_22 ?_
    refine r_bipush C dX6_addActor_23 kb_10 ?_
    refine r_icmp_ge C (c9 := 10 ≤ sA σ) 32 dX6_addActor_25 (by decide) (c_leNN (by omega) (by omega)) (fun h25_2 => ?_) (fun h25_2 => ?_)
    · refine r_iconst C dX6_addActor_32 ki_2 ?_
      first | (exfalso; omega) | (exfalso; simp_all; done)
    · refine r_iconst C dX6_addActor_28 ki_0 ?_
      refine r_goto C 33 dX6_addActor_29 (by decide) ?_
      first | (exfalso; omega) | (exfalso; simp_all; done)
  · refine r_iconst C dX6_addActor_13 ki_1 ?_
    refine r_goto C 33 dX6_addActor_14 (by decide) ?_
    refine r_callV (rest := []) C (c_X6_refused (hM := hM) (rf := rf) (x1 := x1) (sz := sz) (x3 := x3) (x4 := x4) (x5 := x5) (ac := ac) (x7 := x7) (x8 := x8) (x9 := x9) (x10 := x10) (x11 := x11) (sp := sp) (ou := ou) (w := 1) (hw := (by omega))) lk_X6_refused w_5_116 [0] rfl dX6_addActor_33 rfl rfl rfl rfl ⟨by decide, by decide⟩ (Nat.le_of_ble_eq_true rfl) ?_
    rintro _ _ ⟨rfl, rfl⟩
    show ω [(hM, .inr (6, [.int (nI 1), .ref x1, .int (nI sz), .ref x3, .ref x4, .ref x5, .int (nI ac), .ref x7, .ref x8, .ref x9, .ref x10, .ref x11, .int (nI sp), .int (nI ou)])), (x3, .inl (eI E, 255, .inl g))] [(0, .ref hM), (1, .int x)] [.int (bP (0 < 1))] 36
    refine r_if_eqF C (y := 0) (tgt := 41) dX6_addActor_36 (by decide) (fun z => ((by decide) : ¬ (¬ (0 < 1))) (z_eqB.mp z)) ?_
    refine r_iconst C dX6_addActor_39 ki_0 ?_
    exact RT.1 _ _ _ _ _ dX6_addActor_40 rfl rfl (⟨rfl, rfl⟩) rfl
set_option maxRecDepth 100000 in
set_option maxHeartbeats 1000000 in
theorem c_X6_addActor__x2 {l : Launch} {E : Ev} {hM rf x1 sz x3 x4 x5 ac x7 x8 x9 x10 x11 sp ou : Nat} {g : Nat → Int32} {σ : Sg} (hR : RepM σ g) (hW : Wf σ) {x : Nat} (h9 : x ≤ 9) (hx : ¬ sA σ < 10) : Ct l E yX6_addActor cX6_addActor 2 (some FieldType.int) 2 45 [.ref hM, .int (nI x)] [(hM, .inr (6, [.int (nI rf), .ref x1, .int (nI sz), .ref x3, .ref x4, .ref x5, .int (nI ac), .ref x7, .ref x8, .ref x9, .ref x10, .ref x11, .int (nI sp), .int (nI ou)])), (x3, .inl (eI E, 255, .inl g))] (fun v9 w9 => v9 = some (.int (nI 0)) ∧ w9 = [(hM, .inr (6, [.int (nI 2), .ref x1, .int (nI sz), .ref x3, .ref x4, .ref x5, .int (nI ac), .ref x7, .ref x8, .ref x9, .ref x10, .ref x11, .int (nI sp), .int (nI ou)])), (x3, .inl (eI E, 255, .inl g))]) := by
  have hwP := hW.P
  have hwA := hW.A
  have hwS := hW.S
  refine ct_of (by decide +kernel) (Nat.le_of_ble_eq_true rfl) (fun ω C RT => ?_)
  show ω [(hM, .inr (6, [.int (nI rf), .ref x1, .int (nI sz), .ref x3, .ref x4, .ref x5, .int (nI ac), .ref x7, .ref x8, .ref x9, .ref x10, .ref x11, .int (nI sp), .int (nI ou)])), (x3, .inl (eI E, 255, .inl g))] [(0, .ref hM), (1, .int (nI x))] [] 0
  refine r_aload_n C (i := 0) 0 dX6_addActor_0 rfl rfl ?_
  refine r_iload_n C (i := 1) 1 dX6_addActor_1 rfl rfl ?_
  refine r_i2l (v := lN x) C dX6_addActor_2 (v_i2l (by omega)) ?_
  refine r_lconst (v := lN 0) C dX6_addActor_3 (by decide +kernel) ?_
  refine r_ldc2 (v := lN 9) C dX6_addActor_4 w_5_140 ?_
  refine r_readS (rest := [.ref hM]) C (c_X6_in (v := lN x) (lw := lN 0) (hg := lN 9)) lk_X6_in w_5_113 [] dX6_addActor_7 rfl rfl rfl ⟨by decide, by decide⟩ (Nat.le_of_ble_eq_true rfl) (st' := [.int (bP (lN 0 ≤ lN x ∧ lN x ≤ lN 9)), .ref hM]) rfl ?_
  refine r_st (st' := [.int (bP (x ≤ 9)), .ref hM]) (by rw [bP_c (in_N (by omega) (by omega))]) ?_
  refine r_if_ne C (y := 0) (c9 := x ≤ 9) 17 dX6_addActor_10 (by decide) z_neB (fun h10_1 => ?_) (fun h10_1 => ?_)
  · refine r_aload_n C (i := 0) 0 dX6_addActor_17 rfl rfl ?_
    refine r_get C 0 3 uX6 rfl rfl (by decide) w_5_64 rfl dX6_addActor_18 ?_
    refine r_iconst C dX6_addActor_21 ki_1 ?_
    refine r_iald (j := 1) (v := nI (sA σ)) C 1 rfl (by omega) (by decide) hR.A dX6_addActor_22 ?_
    refine r_bipush C dX6_addActor_23 kb_10 ?_
    refine r_icmp_ge C (c9 := 10 ≤ sA σ) 32 dX6_addActor_25 (by decide) (c_leNN (by omega) (by omega)) (fun h25_2 => ?_) (fun h25_2 => ?_)
    · refine r_iconst C dX6_addActor_32 ki_2 ?_
      refine r_callV (rest := []) C (c_X6_refused (hM := hM) (rf := rf) (x1 := x1) (sz := sz) (x3 := x3) (x4 := x4) (x5 := x5) (ac := ac) (x7 := x7) (x8 := x8) (x9 := x9) (x10 := x10) (x11 := x11) (sp := sp) (ou := ou) (w := 2) (hw := (by omega))) lk_X6_refused w_5_116 [0] rfl dX6_addActor_33 rfl rfl rfl rfl ⟨by decide, by decide⟩ (Nat.le_of_ble_eq_true rfl) ?_
      rintro _ _ ⟨rfl, rfl⟩
      show ω [(hM, .inr (6, [.int (nI 2), .ref x1, .int (nI sz), .ref x3, .ref x4, .ref x5, .int (nI ac), .ref x7, .ref x8, .ref x9, .ref x10, .ref x11, .int (nI sp), .int (nI ou)])), (x3, .inl (eI E, 255, .inl g))] [(0, .ref hM), (1, .int (nI x))] [.int (bP (0 < 2))] 36
      refine r_if_eqF C (y := 0) (tgt := 41) dX6_addActor_36 (by decide) (fun z => ((by decide) : ¬ (¬ (0 < 2))) (z_eqB.mp z)) ?_
      refine r_iconst C dX6_addActor_39 ki_0 ?_
      exact RT.1 _ _ _ _ _ dX6_addActor_40 rfl rfl (⟨rfl, rfl⟩) rfl
    · refine r_iconst C dX6_addActor_28 ki_0 ?_
      refine r_goto C 33 dX6_addActor_29 (by decide) ?_
      first | (exfalso; omega) | (exfalso; simp_all; done)
  · refine r_iconst C dX6_addActor_13 ki_1 ?_
    refine r_goto C 33 dX6_addActor_14 (by decide) ?_
    first | (exfalso; omega) | (exfalso; simp_all; done)
set_option maxRecDepth 100000 in
set_option maxHeartbeats 1000000 in
theorem c_X6_addPart {l : Launch} {E : Ev} {hM rf x1 sz x3 x4 x5 ac x7 x8 x9 x10 x11 sp ou : Nat} {g : Nat → Int32} {σ : Sg} (hR : RepM σ g) (hW : Wf σ) {hs : Nat → Sg} {D : Nat → Int32} (hH : HistM hs ac D) (hP : sP σ < 6) : Ct l E yX6_addPart cX6_addPart 1 (some FieldType.int) 2 45 [.ref hM] [(hM, .inr (6, [.int (nI rf), .ref x1, .int (nI sz), .ref x3, .ref x4, .ref x5, .int (nI ac), .ref x7, .ref x8, .ref x9, .ref x10, .ref x11, .int (nI sp), .int (nI ou)])), (x3, .inl (eI E, 255, .inl g)), (x5, .inl (eI E, 3570, .inl D))] (fun v9 w9 => ∃ g2 D2 : Nat → Int32, v9 = some (.int (nI (sP σ))) ∧ w9 = [(hM, .inr (6, [.int (nI 0), .ref x1, .int (nI sz), .ref x3, .ref x4, .ref x5, .int (nI (pushN ac)), .ref x7, .ref x8, .ref x9, .ref x10, .ref x11, .int (nI sp), .int (nI ou)])), (x3, .inl (eI E, 255, .inl g2)), (x5, .inl (eI E, 3570, .inl D2))] ∧ RepM (oPart σ) g2 ∧ HistM (pushH hs ac σ) (pushN ac) D2) := by
  have hwP := hW.P
  have hwA := hW.A
  have hwS := hW.S
  refine ct_of (by decide +kernel) (Nat.le_of_ble_eq_true rfl) (fun ω C RT => ?_)
  show ω [(hM, .inr (6, [.int (nI rf), .ref x1, .int (nI sz), .ref x3, .ref x4, .ref x5, .int (nI ac), .ref x7, .ref x8, .ref x9, .ref x10, .ref x11, .int (nI sp), .int (nI ou)])), (x3, .inl (eI E, 255, .inl g)), (x5, .inl (eI E, 3570, .inl D))] [(0, .ref hM)] [] 0
  refine r_aload_n C (i := 0) 0 dX6_addPart_0 rfl rfl ?_
  refine r_aload_n C (i := 0) 0 dX6_addPart_1 rfl rfl ?_
  refine r_get C 0 3 uX6 rfl rfl (by decide) w_5_64 rfl dX6_addPart_2 ?_
  refine r_iconst C dX6_addPart_5 ki_0 ?_
  refine r_iald (j := 0) (v := nI (sP σ)) C 1 rfl (by omega) (by decide) hR.P dX6_addPart_6 ?_
  refine r_bipush C dX6_addPart_7 kb_6 ?_
  refine r_icmp_ge C (c9 := 6 ≤ sP σ) 16 dX6_addPart_9 (by decide) (c_leNN (by omega) (by omega)) (fun h9_1 => ?_) (fun h9_1 => ?_)
  · refine r_iconst C dX6_addPart_16 ki_1 ?_
    first | (exfalso; omega) | (exfalso; simp_all; done)
  · refine r_iconst C dX6_addPart_12 ki_0 ?_
    refine r_goto C 17 dX6_addPart_13 (by decide) ?_
    refine r_callV (rest := []) C (c_X6_refused (hM := hM) (rf := rf) (x1 := x1) (sz := sz) (x3 := x3) (x4 := x4) (x5 := x5) (ac := ac) (x7 := x7) (x8 := x8) (x9 := x9) (x10 := x10) (x11 := x11) (sp := sp) (ou := ou) (w := 0) (hw := (by omega))) lk_X6_refused w_5_116 [0] rfl dX6_addPart_17 rfl rfl rfl rfl ⟨by decide, by decide⟩ (Nat.le_of_ble_eq_true rfl) ?_
    rintro _ _ ⟨rfl, rfl⟩
    show ω [(hM, .inr (6, [.int (nI 0), .ref x1, .int (nI sz), .ref x3, .ref x4, .ref x5, .int (nI ac), .ref x7, .ref x8, .ref x9, .ref x10, .ref x11, .int (nI sp), .int (nI ou)])), (x3, .inl (eI E, 255, .inl g)), (x5, .inl (eI E, 3570, .inl D))] [(0, .ref hM)] [.int (bP (0 < 0))] 20
    refine r_if_eqT C (y := 0) 25 dX6_addPart_20 (by decide) (z_eqB.mpr (by decide)) ?_
    refine r_aload_n C (i := 0) 0 dX6_addPart_25 rfl rfl ?_
    refine r_callV (rest := []) C (c_X6_remember (hM := hM) (rf := 0) (x1 := x1) (sz := sz) (x3 := x3) (x4 := x4) (x5 := x5) (ac := ac) (x7 := x7) (x8 := x8) (x9 := x9) (x10 := x10) (x11 := x11) (sp := sp) (ou := ou) (g := g) (σ := σ) (hs := hs) (D := D) (hR := hR) (hW := hW) (hH := hH)) lk_X6_remember w_6_54 [0, 1, 2] rfl dX6_addPart_26 rfl rfl rfl rfl ⟨by decide, by decide⟩ (Nat.le_of_ble_eq_true rfl) ?_
    rintro _ _ ⟨D_2, rfl, rfl, hH_3⟩
    show ω [(hM, .inr (6, [.int (nI 0), .ref x1, .int (nI sz), .ref x3, .ref x4, .ref x5, .int (nI (pushN ac)), .ref x7, .ref x8, .ref x9, .ref x10, .ref x11, .int (nI sp), .int (nI ou)])), (x3, .inl (eI E, 255, .inl g)), (x5, .inl (eI E, 3570, .inl D_2))] [(0, .ref hM)] [] 29
    refine r_aload_n C (i := 0) 0 dX6_addPart_29 rfl rfl ?_
    refine r_get C 0 3 uX6 rfl rfl (by decide) w_5_64 rfl dX6_addPart_30 ?_
    refine r_callS (rest := []) C (c_X6_partOn (r := x3) (g := g) (σ := σ) (hR := hR) (hW := hW) (hP := (by omega))) lk_X6_partOn w_5_148 [1] dX6_addPart_33 rfl rfl rfl ⟨by decide, by decide⟩ (Nat.le_of_ble_eq_true rfl) ?_
    rintro _ _ ⟨g_4, rfl, rfl, hR_5⟩
    have hW_6 : Wf (oPart σ) := oPart_wf hW (by omega)
    show ω [(hM, .inr (6, [.int (nI 0), .ref x1, .int (nI sz), .ref x3, .ref x4, .ref x5, .int (nI (pushN ac)), .ref x7, .ref x8, .ref x9, .ref x10, .ref x11, .int (nI sp), .int (nI ou)])), (x3, .inl (eI E, 255, .inl g_4)), (x5, .inl (eI E, 3570, .inl D_2))] [(0, .ref hM)] [.int (nI (sP σ))] 36
    exact RT.1 _ _ _ _ _ dX6_addPart_36 rfl rfl (⟨_, _, rfl, rfl, hR_5, hH_3⟩) rfl
set_option maxRecDepth 100000 in
set_option maxHeartbeats 1000000 in
theorem c_X6_addPart__x1 {l : Launch} {E : Ev} {hM rf x1 sz x3 x4 x5 ac x7 x8 x9 x10 x11 sp ou : Nat} {g : Nat → Int32} {σ : Sg} (hR : RepM σ g) (hW : Wf σ)  (hx : ¬ sP σ < 6) : Ct l E yX6_addPart cX6_addPart 1 (some FieldType.int) 2 45 [.ref hM] [(hM, .inr (6, [.int (nI rf), .ref x1, .int (nI sz), .ref x3, .ref x4, .ref x5, .int (nI ac), .ref x7, .ref x8, .ref x9, .ref x10, .ref x11, .int (nI sp), .int (nI ou)])), (x3, .inl (eI E, 255, .inl g))] (fun v9 w9 => v9 = some (.int (nI 0)) ∧ w9 = [(hM, .inr (6, [.int (nI 1), .ref x1, .int (nI sz), .ref x3, .ref x4, .ref x5, .int (nI ac), .ref x7, .ref x8, .ref x9, .ref x10, .ref x11, .int (nI sp), .int (nI ou)])), (x3, .inl (eI E, 255, .inl g))]) := by
  have hwP := hW.P
  have hwA := hW.A
  have hwS := hW.S
  refine ct_of (by decide +kernel) (Nat.le_of_ble_eq_true rfl) (fun ω C RT => ?_)
  show ω [(hM, .inr (6, [.int (nI rf), .ref x1, .int (nI sz), .ref x3, .ref x4, .ref x5, .int (nI ac), .ref x7, .ref x8, .ref x9, .ref x10, .ref x11, .int (nI sp), .int (nI ou)])), (x3, .inl (eI E, 255, .inl g))] [(0, .ref hM)] [] 0
  refine r_aload_n C (i := 0) 0 dX6_addPart_0 rfl rfl ?_
  refine r_aload_n C (i := 0) 0 dX6_addPart_1 rfl rfl ?_
  refine r_get C 0 3 uX6 rfl rfl (by decide) w_5_64 rfl dX6_addPart_2 ?_
  refine r_iconst C dX6_addPart_5 ki_0 ?_
  refine r_iald (j := 0) (v := nI (sP σ)) C 1 rfl (by omega) (by decide) hR.P dX6_addPart_6 ?_
  refine r_bipush C dX6_addPart_7 kb_6 ?_
  refine r_icmp_ge C (c9 := 6 ≤ sP σ) 16 dX6_addPart_9 (by decide) (c_leNN (by omega) (by omega)) (fun h9_1 => ?_) (fun h9_1 => ?_)
  · refine r_iconst C dX6_addPart_16 ki_1 ?_
    refine r_callV (rest := []) C (c_X6_refused (hM := hM) (rf := rf) (x1 := x1) (sz := sz) (x3 := x3) (x4 := x4) (x5 := x5) (ac := ac) (x7 := x7) (x8 := x8) (x9 := x9) (x10 := x10) (x11 := x11) (sp := sp) (ou := ou) (w := 1) (hw := (by omega))) lk_X6_refused w_5_116 [0] rfl dX6_addPart_17 rfl rfl rfl rfl ⟨by decide, by decide⟩ (Nat.le_of_ble_eq_true rfl) ?_
    rintro _ _ ⟨rfl, rfl⟩
    show ω [(hM, .inr (6, [.int (nI 1), .ref x1, .int (nI sz), .ref x3, .ref x4, .ref x5, .int (nI ac), .ref x7, .ref x8, .ref x9, .ref x10, .ref x11, .int (nI sp), .int (nI ou)])), (x3, .inl (eI E, 255, .inl g))] [(0, .ref hM)] [.int (bP (0 < 1))] 20
    refine r_if_eqF C (y := 0) (tgt := 25) dX6_addPart_20 (by decide) (fun z => ((by decide) : ¬ (¬ (0 < 1))) (z_eqB.mp z)) ?_
    refine r_iconst C dX6_addPart_23 ki_0 ?_
    exact RT.1 _ _ _ _ _ dX6_addPart_24 rfl rfl (⟨rfl, rfl⟩) rfl
  · refine r_iconst C dX6_addPart_12 ki_0 ?_
    refine r_goto C 17 dX6_addPart_13 (by decide) ?_
    first | (exfalso; omega) | (exfalso; simp_all; done)
set_option maxRecDepth 100000 in
set_option maxHeartbeats 1000000 in
theorem c_X6_cast {l : Launch} {E : Ev} {hM rf x1 sz x3 x4 x5 ac x7 x8 x9 x10 x11 sp ou : Nat} {g : Nat → Int32} {σ : Sg} (hR : RepM σ g) (hW : Wf σ) {hs : Nat → Sg} {D : Nat → Int32} (hH : HistM hs ac D) {p a n : Nat} (hp : p < sP σ) (ha : a < sA σ) (hn : n < 20) : Ct l E yX6_cast cX6_cast 4 (some FieldType.int) 2 47 [.ref hM, .int (nI p), .int (nI a), .int (nI n)] [(hM, .inr (6, [.int (nI rf), .ref x1, .int (nI sz), .ref x3, .ref x4, .ref x5, .int (nI ac), .ref x7, .ref x8, .ref x9, .ref x10, .ref x11, .int (nI sp), .int (nI ou)])), (x3, .inl (eI E, 255, .inl g)), (x5, .inl (eI E, 3570, .inl D))] (fun v9 w9 => ∃ g2 D2 : Nat → Int32, v9 = some (.int (mI (sR σ p n))) ∧ w9 = [(hM, .inr (6, [.int (nI 0), .ref x1, .int (nI sz), .ref x3, .ref x4, .ref x5, .int (nI (pushN ac)), .ref x7, .ref x8, .ref x9, .ref x10, .ref x11, .int (nI sp), .int (nI ou)])), (x3, .inl (eI E, 255, .inl g2)), (x5, .inl (eI E, 3570, .inl D2))] ∧ RepM (oCast σ p (a + 1) n) g2 ∧ HistM (pushH hs ac σ) (pushN ac) D2) := by
  have hwP := hW.P
  have hwA := hW.A
  have hwS := hW.S
  refine ct_of (by decide +kernel) (Nat.le_of_ble_eq_true rfl) (fun ω C RT => ?_)
  show ω [(hM, .inr (6, [.int (nI rf), .ref x1, .int (nI sz), .ref x3, .ref x4, .ref x5, .int (nI ac), .ref x7, .ref x8, .ref x9, .ref x10, .ref x11, .int (nI sp), .int (nI ou)])), (x3, .inl (eI E, 255, .inl g)), (x5, .inl (eI E, 3570, .inl D))] [(0, .ref hM), (1, .int (nI p)), (2, .int (nI a)), (3, .int (nI n))] [] 0
  refine r_aload_n C (i := 0) 0 dX6_cast_0 rfl rfl ?_
  refine r_aload_n C (i := 0) 0 dX6_cast_1 rfl rfl ?_
  refine r_get C 0 3 uX6 rfl rfl (by decide) w_5_64 rfl dX6_cast_2 ?_
  refine r_iload_n C (i := 1) 1 dX6_cast_5 rfl rfl ?_
  refine r_readS (rest := [.ref hM]) C (c_X6_isPart (r := x3) (g := g) (σ := σ) (i := p) (hR := hR) (hW := hW) (hi := (by omega))) lk_X6_isPart w_5_151 [1] dX6_cast_6 rfl rfl rfl ⟨by decide, by decide⟩ (Nat.le_of_ble_eq_true rfl) (st' := [.int (bP (p < sP σ)), .ref hM]) rfl ?_
  refine r_if_eq C (y := 0) (c9 := ¬ (p < sP σ)) 39 dX6_cast_9 (by decide) z_eqB (fun h9_1 => ?_) (fun h9_1 => ?_)
  · refine r_iconst C dX6_cast_39 ki_1 ?_
    first | (exfalso; omega) | (exfalso; simp_all; done)
  · replace h9_1 : p < sP σ := Decidable.not_not.mp h9_1
    refine r_iload_n C (i := 3) 3 dX6_cast_12 rfl rfl ?_
    refine r_readS (rest := [.ref hM]) C (c_X6_isNight (i := n) (hi := (by omega))) lk_X6_isNight w_5_185 [] dX6_cast_13 rfl rfl rfl ⟨by decide, by decide⟩ (Nat.le_of_ble_eq_true rfl) (st' := [.int (bP (n ≤ 19)), .ref hM]) rfl ?_
    refine r_if_eq C (y := 0) (c9 := ¬ (n ≤ 19)) 39 dX6_cast_16 (by decide) z_eqB (fun h16_2 => ?_) (fun h16_2 => ?_)
    · refine r_iconst C dX6_cast_39 ki_1 ?_
      first | (exfalso; omega) | (exfalso; simp_all; done)
    · replace h16_2 : n ≤ 19 := Decidable.not_not.mp h16_2
      refine r_iload_n C (i := 2) 2 dX6_cast_19 rfl rfl ?_
      refine r_iconst C dX6_cast_20 ki_m1 ?_
      refine r_icmp_eqF C (tgt := 35) dX6_cast_21 (by decide) (fun z => ((by omega) : ¬ (a + 1 = 0)) ((c_eqNM (by omega) (by omega)).mp z)) ?_
      refine r_aload_n C (i := 0) 0 dX6_cast_24 rfl rfl ?_
      refine r_get C 0 3 uX6 rfl rfl (by decide) w_5_64 rfl dX6_cast_25 ?_
      refine r_iload_n C (i := 2) 2 dX6_cast_28 rfl rfl ?_
      refine r_readS (rest := [.ref hM]) C (c_X6_isActor (r := x3) (g := g) (σ := σ) (i := a) (hR := hR) (hW := hW) (hi := (by omega))) lk_X6_isActor w_5_154 [1] dX6_cast_29 rfl rfl rfl ⟨by decide, by decide⟩ (Nat.le_of_ble_eq_true rfl) (st' := [.int (bP (a < sA σ)), .ref hM]) rfl ?_
      refine r_if_eq C (y := 0) (c9 := ¬ (a < sA σ)) 39 dX6_cast_32 (by decide) z_eqB (fun h32_3 => ?_) (fun h32_3 => ?_)
      · refine r_iconst C dX6_cast_39 ki_1 ?_
        first | (exfalso; omega) | (exfalso; simp_all; done)
      · replace h32_3 : a < sA σ := Decidable.not_not.mp h32_3
        refine r_iconst C dX6_cast_35 ki_0 ?_
        refine r_goto C 40 dX6_cast_36 (by decide) ?_
        refine r_callV (rest := []) C (c_X6_refused (hM := hM) (rf := rf) (x1 := x1) (sz := sz) (x3 := x3) (x4 := x4) (x5 := x5) (ac := ac) (x7 := x7) (x8 := x8) (x9 := x9) (x10 := x10) (x11 := x11) (sp := sp) (ou := ou) (w := 0) (hw := (by omega))) lk_X6_refused w_5_116 [0] rfl dX6_cast_40 rfl rfl rfl rfl ⟨by decide, by decide⟩ (Nat.le_of_ble_eq_true rfl) ?_
        rintro _ _ ⟨rfl, rfl⟩
        show ω [(hM, .inr (6, [.int (nI 0), .ref x1, .int (nI sz), .ref x3, .ref x4, .ref x5, .int (nI ac), .ref x7, .ref x8, .ref x9, .ref x10, .ref x11, .int (nI sp), .int (nI ou)])), (x3, .inl (eI E, 255, .inl g)), (x5, .inl (eI E, 3570, .inl D))] [(0, .ref hM), (1, .int (nI p)), (2, .int (nI a)), (3, .int (nI n))] [.int (bP (0 < 0))] 43
        refine r_if_eqT C (y := 0) 48 dX6_cast_43 (by decide) (z_eqB.mpr (by decide)) ?_
        refine r_aload_n C (i := 0) 0 dX6_cast_48 rfl rfl ?_
        refine r_callV (rest := []) C (c_X6_remember (hM := hM) (rf := 0) (x1 := x1) (sz := sz) (x3 := x3) (x4 := x4) (x5 := x5) (ac := ac) (x7 := x7) (x8 := x8) (x9 := x9) (x10 := x10) (x11 := x11) (sp := sp) (ou := ou) (g := g) (σ := σ) (hs := hs) (D := D) (hR := hR) (hW := hW) (hH := hH)) lk_X6_remember w_6_54 [0, 1, 2] rfl dX6_cast_49 rfl rfl rfl rfl ⟨by decide, by decide⟩ (Nat.le_of_ble_eq_true rfl) ?_
        rintro _ _ ⟨D_4, rfl, rfl, hH_5⟩
        show ω [(hM, .inr (6, [.int (nI 0), .ref x1, .int (nI sz), .ref x3, .ref x4, .ref x5, .int (nI (pushN ac)), .ref x7, .ref x8, .ref x9, .ref x10, .ref x11, .int (nI sp), .int (nI ou)])), (x3, .inl (eI E, 255, .inl g)), (x5, .inl (eI E, 3570, .inl D_4))] [(0, .ref hM), (1, .int (nI p)), (2, .int (nI a)), (3, .int (nI n))] [] 52
        refine r_aload_n C (i := 0) 0 dX6_cast_52 rfl rfl ?_
        refine r_get C 0 3 uX6 rfl rfl (by decide) w_5_64 rfl dX6_cast_53 ?_
        refine r_iload_n C (i := 1) 1 dX6_cast_56 rfl rfl ?_
        refine r_iload_n C (i := 2) 2 dX6_cast_57 rfl rfl ?_
        refine r_iload_n C (i := 3) 3 dX6_cast_58 rfl rfl ?_
        refine r_callS (rest := []) C (c_X6_castOn__n (r := x3) (g := g) (σ := σ) (p := p) (a := a) (n := n) (hR := hR) (hW := hW) (hp := (by omega)) (hn := (by omega)) (hx := (by omega))) lk_X6_castOn w_5_157 [1] dX6_cast_59 rfl rfl rfl ⟨by decide, by decide⟩ (Nat.le_of_ble_eq_true rfl) ?_
        rintro _ _ ⟨g_6, rfl, rfl, hR_7⟩
        have hW_8 : Wf (oCast σ p (a + 1) n) := oCast_wf hW (by omega)
        show ω [(hM, .inr (6, [.int (nI 0), .ref x1, .int (nI sz), .ref x3, .ref x4, .ref x5, .int (nI (pushN ac)), .ref x7, .ref x8, .ref x9, .ref x10, .ref x11, .int (nI sp), .int (nI ou)])), (x3, .inl (eI E, 255, .inl g_6)), (x5, .inl (eI E, 3570, .inl D_4))] [(0, .ref hM), (1, .int (nI p)), (2, .int (nI a)), (3, .int (nI n))] [.int (mI (sR σ p n))] 62
        exact RT.1 _ _ _ _ _ dX6_cast_62 rfl rfl (⟨_, _, rfl, rfl, hR_7, hH_5⟩) rfl
set_option maxRecDepth 100000 in
set_option maxHeartbeats 1000000 in
theorem c_X6_cast__m {l : Launch} {E : Ev} {hM rf x1 sz x3 x4 x5 ac x7 x8 x9 x10 x11 sp ou : Nat} {g : Nat → Int32} {σ : Sg} (hR : RepM σ g) (hW : Wf σ) {hs : Nat → Sg} {D : Nat → Int32} (hH : HistM hs ac D) {p n : Nat} (hp : p < sP σ) (hn : n < 20) : Ct l E yX6_cast cX6_cast 4 (some FieldType.int) 2 47 [.ref hM, .int (nI p), .int (mI 0), .int (nI n)] [(hM, .inr (6, [.int (nI rf), .ref x1, .int (nI sz), .ref x3, .ref x4, .ref x5, .int (nI ac), .ref x7, .ref x8, .ref x9, .ref x10, .ref x11, .int (nI sp), .int (nI ou)])), (x3, .inl (eI E, 255, .inl g)), (x5, .inl (eI E, 3570, .inl D))] (fun v9 w9 => ∃ g2 D2 : Nat → Int32, v9 = some (.int (mI (sR σ p n))) ∧ w9 = [(hM, .inr (6, [.int (nI 0), .ref x1, .int (nI sz), .ref x3, .ref x4, .ref x5, .int (nI (pushN ac)), .ref x7, .ref x8, .ref x9, .ref x10, .ref x11, .int (nI sp), .int (nI ou)])), (x3, .inl (eI E, 255, .inl g2)), (x5, .inl (eI E, 3570, .inl D2))] ∧ RepM (oCast σ p 0 n) g2 ∧ HistM (pushH hs ac σ) (pushN ac) D2) := by
  have hwP := hW.P
  have hwA := hW.A
  have hwS := hW.S
  refine ct_of (by decide +kernel) (Nat.le_of_ble_eq_true rfl) (fun ω C RT => ?_)
  show ω [(hM, .inr (6, [.int (nI rf), .ref x1, .int (nI sz), .ref x3, .ref x4, .ref x5, .int (nI ac), .ref x7, .ref x8, .ref x9, .ref x10, .ref x11, .int (nI sp), .int (nI ou)])), (x3, .inl (eI E, 255, .inl g)), (x5, .inl (eI E, 3570, .inl D))] [(0, .ref hM), (1, .int (nI p)), (2, .int (mI 0)), (3, .int (nI n))] [] 0
  refine r_aload_n C (i := 0) 0 dX6_cast_0 rfl rfl ?_
  refine r_aload_n C (i := 0) 0 dX6_cast_1 rfl rfl ?_
  refine r_get C 0 3 uX6 rfl rfl (by decide) w_5_64 rfl dX6_cast_2 ?_
  refine r_iload_n C (i := 1) 1 dX6_cast_5 rfl rfl ?_
  refine r_readS (rest := [.ref hM]) C (c_X6_isPart (r := x3) (g := g) (σ := σ) (i := p) (hR := hR) (hW := hW) (hi := (by omega))) lk_X6_isPart w_5_151 [1] dX6_cast_6 rfl rfl rfl ⟨by decide, by decide⟩ (Nat.le_of_ble_eq_true rfl) (st' := [.int (bP (p < sP σ)), .ref hM]) rfl ?_
  refine r_if_eq C (y := 0) (c9 := ¬ (p < sP σ)) 39 dX6_cast_9 (by decide) z_eqB (fun h9_1 => ?_) (fun h9_1 => ?_)
  · refine r_iconst C dX6_cast_39 ki_1 ?_
    first | (exfalso; omega) | (exfalso; simp_all; done)
  · replace h9_1 : p < sP σ := Decidable.not_not.mp h9_1
    refine r_iload_n C (i := 3) 3 dX6_cast_12 rfl rfl ?_
    refine r_readS (rest := [.ref hM]) C (c_X6_isNight (i := n) (hi := (by omega))) lk_X6_isNight w_5_185 [] dX6_cast_13 rfl rfl rfl ⟨by decide, by decide⟩ (Nat.le_of_ble_eq_true rfl) (st' := [.int (bP (n ≤ 19)), .ref hM]) rfl ?_
    refine r_if_eq C (y := 0) (c9 := ¬ (n ≤ 19)) 39 dX6_cast_16 (by decide) z_eqB (fun h16_2 => ?_) (fun h16_2 => ?_)
    · refine r_iconst C dX6_cast_39 ki_1 ?_
      first | (exfalso; omega) | (exfalso; simp_all; done)
    · replace h16_2 : n ≤ 19 := Decidable.not_not.mp h16_2
      refine r_iload_n C (i := 2) 2 dX6_cast_19 rfl rfl ?_
      refine r_iconst C dX6_cast_20 ki_m1 ?_
      refine r_icmp_eqT C 35 dX6_cast_21 (by decide) ((c_eqMM (by omega) (by omega)).mpr (by omega)) ?_
      refine r_iconst C dX6_cast_35 ki_0 ?_
      refine r_goto C 40 dX6_cast_36 (by decide) ?_
      refine r_callV (rest := []) C (c_X6_refused (hM := hM) (rf := rf) (x1 := x1) (sz := sz) (x3 := x3) (x4 := x4) (x5 := x5) (ac := ac) (x7 := x7) (x8 := x8) (x9 := x9) (x10 := x10) (x11 := x11) (sp := sp) (ou := ou) (w := 0) (hw := (by omega))) lk_X6_refused w_5_116 [0] rfl dX6_cast_40 rfl rfl rfl rfl ⟨by decide, by decide⟩ (Nat.le_of_ble_eq_true rfl) ?_
      rintro _ _ ⟨rfl, rfl⟩
      show ω [(hM, .inr (6, [.int (nI 0), .ref x1, .int (nI sz), .ref x3, .ref x4, .ref x5, .int (nI ac), .ref x7, .ref x8, .ref x9, .ref x10, .ref x11, .int (nI sp), .int (nI ou)])), (x3, .inl (eI E, 255, .inl g)), (x5, .inl (eI E, 3570, .inl D))] [(0, .ref hM), (1, .int (nI p)), (2, .int (mI 0)), (3, .int (nI n))] [.int (bP (0 < 0))] 43
      refine r_if_eqT C (y := 0) 48 dX6_cast_43 (by decide) (z_eqB.mpr (by decide)) ?_
      refine r_aload_n C (i := 0) 0 dX6_cast_48 rfl rfl ?_
      refine r_callV (rest := []) C (c_X6_remember (hM := hM) (rf := 0) (x1 := x1) (sz := sz) (x3 := x3) (x4 := x4) (x5 := x5) (ac := ac) (x7 := x7) (x8 := x8) (x9 := x9) (x10 := x10) (x11 := x11) (sp := sp) (ou := ou) (g := g) (σ := σ) (hs := hs) (D := D) (hR := hR) (hW := hW) (hH := hH)) lk_X6_remember w_6_54 [0, 1, 2] rfl dX6_cast_49 rfl rfl rfl rfl ⟨by decide, by decide⟩ (Nat.le_of_ble_eq_true rfl) ?_
      rintro _ _ ⟨D_3, rfl, rfl, hH_4⟩
      show ω [(hM, .inr (6, [.int (nI 0), .ref x1, .int (nI sz), .ref x3, .ref x4, .ref x5, .int (nI (pushN ac)), .ref x7, .ref x8, .ref x9, .ref x10, .ref x11, .int (nI sp), .int (nI ou)])), (x3, .inl (eI E, 255, .inl g)), (x5, .inl (eI E, 3570, .inl D_3))] [(0, .ref hM), (1, .int (nI p)), (2, .int (mI 0)), (3, .int (nI n))] [] 52
      refine r_aload_n C (i := 0) 0 dX6_cast_52 rfl rfl ?_
      refine r_get C 0 3 uX6 rfl rfl (by decide) w_5_64 rfl dX6_cast_53 ?_
      refine r_iload_n C (i := 1) 1 dX6_cast_56 rfl rfl ?_
      refine r_iload_n C (i := 2) 2 dX6_cast_57 rfl rfl ?_
      refine r_iload_n C (i := 3) 3 dX6_cast_58 rfl rfl ?_
      refine r_callS (rest := []) C (c_X6_castOn (r := x3) (g := g) (σ := σ) (p := p) (x := 0) (n := n) (hR := hR) (hW := hW) (hp := (by omega)) (hn := (by omega)) (hx := (by omega))) lk_X6_castOn w_5_157 [1] dX6_cast_59 rfl rfl rfl ⟨by decide, by decide⟩ (Nat.le_of_ble_eq_true rfl) ?_
      rintro _ _ ⟨g_5, rfl, rfl, hR_6⟩
      have hW_7 : Wf (oCast σ p 0 n) := oCast_wf hW (by omega)
      show ω [(hM, .inr (6, [.int (nI 0), .ref x1, .int (nI sz), .ref x3, .ref x4, .ref x5, .int (nI (pushN ac)), .ref x7, .ref x8, .ref x9, .ref x10, .ref x11, .int (nI sp), .int (nI ou)])), (x3, .inl (eI E, 255, .inl g_5)), (x5, .inl (eI E, 3570, .inl D_3))] [(0, .ref hM), (1, .int (nI p)), (2, .int (mI 0)), (3, .int (nI n))] [.int (mI (sR σ p n))] 62
      exact RT.1 _ _ _ _ _ dX6_cast_62 rfl rfl (⟨_, _, rfl, rfl, hR_6, hH_4⟩) rfl
set_option maxRecDepth 100000 in
set_option maxHeartbeats 1000000 in
theorem c_X6_cast__x1 {l : Launch} {E : Ev} {hM rf x1 sz x3 x4 x5 ac x7 x8 x9 x10 x11 sp ou : Nat} {g : Nat → Int32} {σ : Sg} (hR : RepM σ g) (hW : Wf σ) {p a n : Int32} (hx : ¬ (vI p (sP σ) ∧ vI n 20 ∧ (a = mI 0 ∨ vI a (sA σ)))) : Ct l E yX6_cast cX6_cast 4 (some FieldType.int) 2 47 [.ref hM, .int p, .int a, .int n] [(hM, .inr (6, [.int (nI rf), .ref x1, .int (nI sz), .ref x3, .ref x4, .ref x5, .int (nI ac), .ref x7, .ref x8, .ref x9, .ref x10, .ref x11, .int (nI sp), .int (nI ou)])), (x3, .inl (eI E, 255, .inl g))] (fun v9 w9 => v9 = some (.int (nI 0)) ∧ w9 = [(hM, .inr (6, [.int (nI 1), .ref x1, .int (nI sz), .ref x3, .ref x4, .ref x5, .int (nI ac), .ref x7, .ref x8, .ref x9, .ref x10, .ref x11, .int (nI sp), .int (nI ou)])), (x3, .inl (eI E, 255, .inl g))]) := by
  have hwP := hW.P
  have hwA := hW.A
  have hwS := hW.S
  refine ct_of (by decide +kernel) (Nat.le_of_ble_eq_true rfl) (fun ω C RT => ?_)
  show ω [(hM, .inr (6, [.int (nI rf), .ref x1, .int (nI sz), .ref x3, .ref x4, .ref x5, .int (nI ac), .ref x7, .ref x8, .ref x9, .ref x10, .ref x11, .int (nI sp), .int (nI ou)])), (x3, .inl (eI E, 255, .inl g))] [(0, .ref hM), (1, .int p), (2, .int a), (3, .int n)] [] 0
  refine r_aload_n C (i := 0) 0 dX6_cast_0 rfl rfl ?_
  refine r_aload_n C (i := 0) 0 dX6_cast_1 rfl rfl ?_
  refine r_get C 0 3 uX6 rfl rfl (by decide) w_5_64 rfl dX6_cast_2 ?_
  refine r_iload_n C (i := 1) 1 dX6_cast_5 rfl rfl ?_
  refine r_readS (rest := [.ref hM]) C (c_X6_isPart__r (r := x3) (g := g) (σ := σ) (x := p) (hR := hR) (hW := hW)) lk_X6_isPart w_5_151 [1] dX6_cast_6 rfl rfl rfl ⟨by decide, by decide⟩ (Nat.le_of_ble_eq_true rfl) (st' := [.int (bP (vI p (sP σ))), .ref hM]) rfl ?_
  refine r_if_eq C (y := 0) (c9 := ¬ (vI p (sP σ))) 39 dX6_cast_9 (by decide) z_eqB (fun h9_1 => ?_) (fun h9_1 => ?_)
  · refine r_iconst C dX6_cast_39 ki_1 ?_
    refine r_callV (rest := []) C (c_X6_refused (hM := hM) (rf := rf) (x1 := x1) (sz := sz) (x3 := x3) (x4 := x4) (x5 := x5) (ac := ac) (x7 := x7) (x8 := x8) (x9 := x9) (x10 := x10) (x11 := x11) (sp := sp) (ou := ou) (w := 1) (hw := (by omega))) lk_X6_refused w_5_116 [0] rfl dX6_cast_40 rfl rfl rfl rfl ⟨by decide, by decide⟩ (Nat.le_of_ble_eq_true rfl) ?_
    rintro _ _ ⟨rfl, rfl⟩
    show ω [(hM, .inr (6, [.int (nI 1), .ref x1, .int (nI sz), .ref x3, .ref x4, .ref x5, .int (nI ac), .ref x7, .ref x8, .ref x9, .ref x10, .ref x11, .int (nI sp), .int (nI ou)])), (x3, .inl (eI E, 255, .inl g))] [(0, .ref hM), (1, .int p), (2, .int a), (3, .int n)] [.int (bP (0 < 1))] 43
    refine r_if_eqF C (y := 0) (tgt := 48) dX6_cast_43 (by decide) (fun z => ((by decide) : ¬ (¬ (0 < 1))) (z_eqB.mp z)) ?_
    refine r_iconst C dX6_cast_46 ki_0 ?_
    exact RT.1 _ _ _ _ _ dX6_cast_47 rfl rfl (⟨rfl, rfl⟩) rfl
  · replace h9_1 : vI p (sP σ) := Decidable.not_not.mp h9_1
    refine r_iload_n C (i := 3) 3 dX6_cast_12 rfl rfl ?_
    refine r_readS (rest := [.ref hM]) C (c_X6_isNight__r (x := n) ) lk_X6_isNight w_5_185 [] dX6_cast_13 rfl rfl rfl ⟨by decide, by decide⟩ (Nat.le_of_ble_eq_true rfl) (st' := [.int (bP (vI n 20)), .ref hM]) rfl ?_
    refine r_if_eq C (y := 0) (c9 := ¬ (vI n 20)) 39 dX6_cast_16 (by decide) z_eqB (fun h16_2 => ?_) (fun h16_2 => ?_)
    · refine r_iconst C dX6_cast_39 ki_1 ?_
      refine r_callV (rest := []) C (c_X6_refused (hM := hM) (rf := rf) (x1 := x1) (sz := sz) (x3 := x3) (x4 := x4) (x5 := x5) (ac := ac) (x7 := x7) (x8 := x8) (x9 := x9) (x10 := x10) (x11 := x11) (sp := sp) (ou := ou) (w := 1) (hw := (by omega))) lk_X6_refused w_5_116 [0] rfl dX6_cast_40 rfl rfl rfl rfl ⟨by decide, by decide⟩ (Nat.le_of_ble_eq_true rfl) ?_
      rintro _ _ ⟨rfl, rfl⟩
      show ω [(hM, .inr (6, [.int (nI 1), .ref x1, .int (nI sz), .ref x3, .ref x4, .ref x5, .int (nI ac), .ref x7, .ref x8, .ref x9, .ref x10, .ref x11, .int (nI sp), .int (nI ou)])), (x3, .inl (eI E, 255, .inl g))] [(0, .ref hM), (1, .int p), (2, .int a), (3, .int n)] [.int (bP (0 < 1))] 43
      refine r_if_eqF C (y := 0) (tgt := 48) dX6_cast_43 (by decide) (fun z => ((by decide) : ¬ (¬ (0 < 1))) (z_eqB.mp z)) ?_
      refine r_iconst C dX6_cast_46 ki_0 ?_
      exact RT.1 _ _ _ _ _ dX6_cast_47 rfl rfl (⟨rfl, rfl⟩) rfl
    · replace h16_2 : vI n 20 := Decidable.not_not.mp h16_2
      refine r_iload_n C (i := 2) 2 dX6_cast_19 rfl rfl ?_
      refine r_iconst C dX6_cast_20 ki_m1 ?_
      refine r_icmp_eq C (c9 := a = mI 0) 35 dX6_cast_21 (by decide) Iff.rfl (fun h21_3 => ?_) (fun h21_3 => ?_)
      · exact absurd ⟨h9_1, h16_2, Or.inl h21_3⟩ hx
      · refine r_aload_n C (i := 0) 0 dX6_cast_24 rfl rfl ?_
        refine r_get C 0 3 uX6 rfl rfl (by decide) w_5_64 rfl dX6_cast_25 ?_
        refine r_iload_n C (i := 2) 2 dX6_cast_28 rfl rfl ?_
        refine r_readS (rest := [.ref hM]) C (c_X6_isActor__r (r := x3) (g := g) (σ := σ) (x := a) (hR := hR) (hW := hW)) lk_X6_isActor w_5_154 [1] dX6_cast_29 rfl rfl rfl ⟨by decide, by decide⟩ (Nat.le_of_ble_eq_true rfl) (st' := [.int (bP (vI a (sA σ))), .ref hM]) rfl ?_
        refine r_if_eq C (y := 0) (c9 := ¬ (vI a (sA σ))) 39 dX6_cast_32 (by decide) z_eqB (fun h32_4 => ?_) (fun h32_4 => ?_)
        · refine r_iconst C dX6_cast_39 ki_1 ?_
          refine r_callV (rest := []) C (c_X6_refused (hM := hM) (rf := rf) (x1 := x1) (sz := sz) (x3 := x3) (x4 := x4) (x5 := x5) (ac := ac) (x7 := x7) (x8 := x8) (x9 := x9) (x10 := x10) (x11 := x11) (sp := sp) (ou := ou) (w := 1) (hw := (by omega))) lk_X6_refused w_5_116 [0] rfl dX6_cast_40 rfl rfl rfl rfl ⟨by decide, by decide⟩ (Nat.le_of_ble_eq_true rfl) ?_
          rintro _ _ ⟨rfl, rfl⟩
          show ω [(hM, .inr (6, [.int (nI 1), .ref x1, .int (nI sz), .ref x3, .ref x4, .ref x5, .int (nI ac), .ref x7, .ref x8, .ref x9, .ref x10, .ref x11, .int (nI sp), .int (nI ou)])), (x3, .inl (eI E, 255, .inl g))] [(0, .ref hM), (1, .int p), (2, .int a), (3, .int n)] [.int (bP (0 < 1))] 43
          refine r_if_eqF C (y := 0) (tgt := 48) dX6_cast_43 (by decide) (fun z => ((by decide) : ¬ (¬ (0 < 1))) (z_eqB.mp z)) ?_
          refine r_iconst C dX6_cast_46 ki_0 ?_
          exact RT.1 _ _ _ _ _ dX6_cast_47 rfl rfl (⟨rfl, rfl⟩) rfl
        · replace h32_4 : vI a (sA σ) := Decidable.not_not.mp h32_4
          exact absurd ⟨h9_1, h16_2, Or.inr h32_4⟩ hx
set_option maxRecDepth 100000 in
set_option maxHeartbeats 1000000 in
theorem c_X6_understudy {l : Launch} {E : Ev} {hM rf x1 sz x3 x4 x5 ac x7 x8 x9 x10 x11 sp ou : Nat} {g : Nat → Int32} {σ : Sg} (hR : RepM σ g) (hW : Wf σ) {hs : Nat → Sg} {D : Nat → Int32} (hH : HistM hs ac D) {p a : Nat} (hp : p < sP σ) (ha : a < sA σ) (hC : sC σ p < 4) (hrk : rk σ p a = 0) : Ct l E yX6_understudy cX6_understudy 3 (some FieldType.int) 3 68 [.ref hM, .int (nI p), .int (nI a)] [(hM, .inr (6, [.int (nI rf), .ref x1, .int (nI sz), .ref x3, .ref x4, .ref x5, .int (nI ac), .ref x7, .ref x8, .ref x9, .ref x10, .ref x11, .int (nI sp), .int (nI ou)])), (x3, .inl (eI E, 255, .inl g)), (x5, .inl (eI E, 3570, .inl D))] (fun v9 w9 => ∃ g2 D2 : Nat → Int32, v9 = some (.int (nI (sC σ p + 1))) ∧ w9 = [(hM, .inr (6, [.int (nI 0), .ref x1, .int (nI sz), .ref x3, .ref x4, .ref x5, .int (nI (pushN ac)), .ref x7, .ref x8, .ref x9, .ref x10, .ref x11, .int (nI sp), .int (nI ou)])), (x3, .inl (eI E, 255, .inl g2)), (x5, .inl (eI E, 3570, .inl D2))] ∧ RepM (oStudy σ p a) g2 ∧ HistM (pushH hs ac σ) (pushN ac) D2) := by
  have hwP := hW.P
  have hwA := hW.A
  have hwS := hW.S
  refine ct_of (by decide +kernel) (Nat.le_of_ble_eq_true rfl) (fun ω C RT => ?_)
  show ω [(hM, .inr (6, [.int (nI rf), .ref x1, .int (nI sz), .ref x3, .ref x4, .ref x5, .int (nI ac), .ref x7, .ref x8, .ref x9, .ref x10, .ref x11, .int (nI sp), .int (nI ou)])), (x3, .inl (eI E, 255, .inl g)), (x5, .inl (eI E, 3570, .inl D))] [(0, .ref hM), (1, .int (nI p)), (2, .int (nI a))] [] 0
  refine r_aload_n C (i := 0) 0 dX6_understudy_0 rfl rfl ?_
  refine r_aload_n C (i := 0) 0 dX6_understudy_1 rfl rfl ?_
  refine r_get C 0 3 uX6 rfl rfl (by decide) w_5_64 rfl dX6_understudy_2 ?_
  refine r_iload_n C (i := 1) 1 dX6_understudy_5 rfl rfl ?_
  refine r_readS (rest := [.ref hM]) C (c_X6_isPart (r := x3) (g := g) (σ := σ) (i := p) (hR := hR) (hW := hW) (hi := (by omega))) lk_X6_isPart w_5_151 [1] dX6_understudy_6 rfl rfl rfl ⟨by decide, by decide⟩ (Nat.le_of_ble_eq_true rfl) (st' := [.int (bP (p < sP σ)), .ref hM]) rfl ?_
  refine r_if_eq C (y := 0) (c9 := ¬ (p < sP σ)) 23 dX6_understudy_9 (by decide) z_eqB (fun h9_1 => ?_) (fun h9_1 => ?_)
  · refine r_iconst C dX6_understudy_23 ki_1 ?_
    refine r_goto C 44 dX6_understudy_24 (by decide) ?_
    first | (exfalso; omega) | (exfalso; simp_all; done)
  · replace h9_1 : p < sP σ := Decidable.not_not.mp h9_1
    refine r_aload_n C (i := 0) 0 dX6_understudy_12 rfl rfl ?_
    refine r_get C 0 3 uX6 rfl rfl (by decide) w_5_64 rfl dX6_understudy_13 ?_
    refine r_iload_n C (i := 2) 2 dX6_understudy_16 rfl rfl ?_
    refine r_readS (rest := [.ref hM]) C (c_X6_isActor (r := x3) (g := g) (σ := σ) (i := a) (hR := hR) (hW := hW) (hi := (by omega))) lk_X6_isActor w_5_154 [1] dX6_understudy_17 rfl rfl rfl ⟨by decide, by decide⟩ (Nat.le_of_ble_eq_true rfl) (st' := [.int (bP (a < sA σ)), .ref hM]) rfl ?_
    refine r_if_ne C (y := 0) (c9 := a < sA σ) 27 dX6_understudy_20 (by decide) z_neB (fun h20_2 => ?_) (fun h20_2 => ?_)
    · refine r_aload_n C (i := 0) 0 dX6_understudy_27 rfl rfl ?_
      refine r_get C 0 3 uX6 rfl rfl (by decide) w_5_64 rfl dX6_understudy_28 ?_
      refine r_iload_n C (i := 1) 1 dX6_understudy_31 rfl rfl ?_
      refine r_iload_n C (i := 2) 2 dX6_understudy_32 rfl rfl ?_
      refine r_readS (rest := [.ref hM]) C (c_X6_canStudy (r := x3) (g := g) (σ := σ) (p := p) (a := a) (hR := hR) (hW := hW) (hp := (by omega)) (ha := (by omega))) lk_X6_canStudy w_5_163 [1] dX6_understudy_33 rfl rfl rfl ⟨by decide, by decide⟩ (Nat.le_of_ble_eq_true rfl) (st' := [.int (bP (p < sP σ ∧ a < sA σ ∧ sC σ p < 4 ∧ rk σ p a = 0)), .ref hM]) rfl ?_
      refine r_if_eq C (y := 0) (c9 := ¬ (p < sP σ ∧ a < sA σ ∧ sC σ p < 4 ∧ rk σ p a = 0)) 43 dX6_understudy_36 (by decide) z_eqB (fun h36_3 => ?_) (fun h36_3 => ?_)
      · refine r_iconst C dX6_understudy_43 ki_2 ?_
        first | (exfalso; omega) | (exfalso; simp_all; done)
      · replace h36_3 : p < sP σ ∧ a < sA σ ∧ sC σ p < 4 ∧ rk σ p a = 0 := Decidable.not_not.mp h36_3
        refine r_iconst C dX6_understudy_39 ki_0 ?_
        refine r_goto C 44 dX6_understudy_40 (by decide) ?_
        refine r_callV (rest := []) C (c_X6_refused (hM := hM) (rf := rf) (x1 := x1) (sz := sz) (x3 := x3) (x4 := x4) (x5 := x5) (ac := ac) (x7 := x7) (x8 := x8) (x9 := x9) (x10 := x10) (x11 := x11) (sp := sp) (ou := ou) (w := 0) (hw := (by omega))) lk_X6_refused w_5_116 [0] rfl dX6_understudy_44 rfl rfl rfl rfl ⟨by decide, by decide⟩ (Nat.le_of_ble_eq_true rfl) ?_
        rintro _ _ ⟨rfl, rfl⟩
        show ω [(hM, .inr (6, [.int (nI 0), .ref x1, .int (nI sz), .ref x3, .ref x4, .ref x5, .int (nI ac), .ref x7, .ref x8, .ref x9, .ref x10, .ref x11, .int (nI sp), .int (nI ou)])), (x3, .inl (eI E, 255, .inl g)), (x5, .inl (eI E, 3570, .inl D))] [(0, .ref hM), (1, .int (nI p)), (2, .int (nI a))] [.int (bP (0 < 0))] 47
        refine r_if_eqT C (y := 0) 52 dX6_understudy_47 (by decide) (z_eqB.mpr (by decide)) ?_
        refine r_aload_n C (i := 0) 0 dX6_understudy_52 rfl rfl ?_
        refine r_callV (rest := []) C (c_X6_remember (hM := hM) (rf := 0) (x1 := x1) (sz := sz) (x3 := x3) (x4 := x4) (x5 := x5) (ac := ac) (x7 := x7) (x8 := x8) (x9 := x9) (x10 := x10) (x11 := x11) (sp := sp) (ou := ou) (g := g) (σ := σ) (hs := hs) (D := D) (hR := hR) (hW := hW) (hH := hH)) lk_X6_remember w_6_54 [0, 1, 2] rfl dX6_understudy_53 rfl rfl rfl rfl ⟨by decide, by decide⟩ (Nat.le_of_ble_eq_true rfl) ?_
        rintro _ _ ⟨D_4, rfl, rfl, hH_5⟩
        show ω [(hM, .inr (6, [.int (nI 0), .ref x1, .int (nI sz), .ref x3, .ref x4, .ref x5, .int (nI (pushN ac)), .ref x7, .ref x8, .ref x9, .ref x10, .ref x11, .int (nI sp), .int (nI ou)])), (x3, .inl (eI E, 255, .inl g)), (x5, .inl (eI E, 3570, .inl D_4))] [(0, .ref hM), (1, .int (nI p)), (2, .int (nI a))] [] 56
        refine r_aload_n C (i := 0) 0 dX6_understudy_56 rfl rfl ?_
        refine r_get C 0 3 uX6 rfl rfl (by decide) w_5_64 rfl dX6_understudy_57 ?_
        refine r_iload_n C (i := 1) 1 dX6_understudy_60 rfl rfl ?_
        refine r_iload_n C (i := 2) 2 dX6_understudy_61 rfl rfl ?_
        refine r_callS (rest := []) C (c_X6_studyOn (r := x3) (g := g) (σ := σ) (p := p) (a := a) (hR := hR) (hW := hW) (hp := (by omega)) (ha := (by omega)) (hC := (by omega))) lk_X6_studyOn w_5_169 [1] dX6_understudy_62 rfl rfl rfl ⟨by decide, by decide⟩ (Nat.le_of_ble_eq_true rfl) ?_
        rintro _ _ ⟨g_6, rfl, rfl, hR_7⟩
        have hW_8 : Wf (oStudy σ p a) := oStudy_wf hW (by omega) (by omega)
        show ω [(hM, .inr (6, [.int (nI 0), .ref x1, .int (nI sz), .ref x3, .ref x4, .ref x5, .int (nI (pushN ac)), .ref x7, .ref x8, .ref x9, .ref x10, .ref x11, .int (nI sp), .int (nI ou)])), (x3, .inl (eI E, 255, .inl g_6)), (x5, .inl (eI E, 3570, .inl D_4))] [(0, .ref hM), (1, .int (nI p)), (2, .int (nI a))] [.int (nI (sC σ p + 1))] 65
        exact RT.1 _ _ _ _ _ dX6_understudy_65 rfl rfl (⟨_, _, rfl, rfl, hR_7, hH_5⟩) rfl
    · refine r_iconst C dX6_understudy_23 ki_1 ?_
      refine r_goto C 44 dX6_understudy_24 (by decide) ?_
      first | (exfalso; omega) | (exfalso; simp_all; done)
set_option maxRecDepth 100000 in
set_option maxHeartbeats 1000000 in
theorem c_X6_understudy__x1 {l : Launch} {E : Ev} {hM rf x1 sz x3 x4 x5 ac x7 x8 x9 x10 x11 sp ou : Nat} {g : Nat → Int32} {σ : Sg} (hR : RepM σ g) (hW : Wf σ) {p a : Int32} (hx : ¬ (vI p (sP σ) ∧ vI a (sA σ))) : Ct l E yX6_understudy cX6_understudy 3 (some FieldType.int) 3 68 [.ref hM, .int p, .int a] [(hM, .inr (6, [.int (nI rf), .ref x1, .int (nI sz), .ref x3, .ref x4, .ref x5, .int (nI ac), .ref x7, .ref x8, .ref x9, .ref x10, .ref x11, .int (nI sp), .int (nI ou)])), (x3, .inl (eI E, 255, .inl g))] (fun v9 w9 => v9 = some (.int (nI 0)) ∧ w9 = [(hM, .inr (6, [.int (nI 1), .ref x1, .int (nI sz), .ref x3, .ref x4, .ref x5, .int (nI ac), .ref x7, .ref x8, .ref x9, .ref x10, .ref x11, .int (nI sp), .int (nI ou)])), (x3, .inl (eI E, 255, .inl g))]) := by
  have hwP := hW.P
  have hwA := hW.A
  have hwS := hW.S
  refine ct_of (by decide +kernel) (Nat.le_of_ble_eq_true rfl) (fun ω C RT => ?_)
  show ω [(hM, .inr (6, [.int (nI rf), .ref x1, .int (nI sz), .ref x3, .ref x4, .ref x5, .int (nI ac), .ref x7, .ref x8, .ref x9, .ref x10, .ref x11, .int (nI sp), .int (nI ou)])), (x3, .inl (eI E, 255, .inl g))] [(0, .ref hM), (1, .int p), (2, .int a)] [] 0
  refine r_aload_n C (i := 0) 0 dX6_understudy_0 rfl rfl ?_
  refine r_aload_n C (i := 0) 0 dX6_understudy_1 rfl rfl ?_
  refine r_get C 0 3 uX6 rfl rfl (by decide) w_5_64 rfl dX6_understudy_2 ?_
  refine r_iload_n C (i := 1) 1 dX6_understudy_5 rfl rfl ?_
  refine r_readS (rest := [.ref hM]) C (c_X6_isPart__r (r := x3) (g := g) (σ := σ) (x := p) (hR := hR) (hW := hW)) lk_X6_isPart w_5_151 [1] dX6_understudy_6 rfl rfl rfl ⟨by decide, by decide⟩ (Nat.le_of_ble_eq_true rfl) (st' := [.int (bP (vI p (sP σ))), .ref hM]) rfl ?_
  refine r_if_eq C (y := 0) (c9 := ¬ (vI p (sP σ))) 23 dX6_understudy_9 (by decide) z_eqB (fun h9_1 => ?_) (fun h9_1 => ?_)
  · refine r_iconst C dX6_understudy_23 ki_1 ?_
    refine r_goto C 44 dX6_understudy_24 (by decide) ?_
    refine r_callV (rest := []) C (c_X6_refused (hM := hM) (rf := rf) (x1 := x1) (sz := sz) (x3 := x3) (x4 := x4) (x5 := x5) (ac := ac) (x7 := x7) (x8 := x8) (x9 := x9) (x10 := x10) (x11 := x11) (sp := sp) (ou := ou) (w := 1) (hw := (by omega))) lk_X6_refused w_5_116 [0] rfl dX6_understudy_44 rfl rfl rfl rfl ⟨by decide, by decide⟩ (Nat.le_of_ble_eq_true rfl) ?_
    rintro _ _ ⟨rfl, rfl⟩
    show ω [(hM, .inr (6, [.int (nI 1), .ref x1, .int (nI sz), .ref x3, .ref x4, .ref x5, .int (nI ac), .ref x7, .ref x8, .ref x9, .ref x10, .ref x11, .int (nI sp), .int (nI ou)])), (x3, .inl (eI E, 255, .inl g))] [(0, .ref hM), (1, .int p), (2, .int a)] [.int (bP (0 < 1))] 47
    refine r_if_eqF C (y := 0) (tgt := 52) dX6_understudy_47 (by decide) (fun z => ((by decide) : ¬ (¬ (0 < 1))) (z_eqB.mp z)) ?_
    refine r_iconst C dX6_understudy_50 ki_0 ?_
    exact RT.1 _ _ _ _ _ dX6_understudy_51 rfl rfl (⟨rfl, rfl⟩) rfl
  · replace h9_1 : vI p (sP σ) := Decidable.not_not.mp h9_1
    refine r_aload_n C (i := 0) 0 dX6_understudy_12 rfl rfl ?_
    refine r_get C 0 3 uX6 rfl rfl (by decide) w_5_64 rfl dX6_understudy_13 ?_
    refine r_iload_n C (i := 2) 2 dX6_understudy_16 rfl rfl ?_
    refine r_readS (rest := [.ref hM]) C (c_X6_isActor__r (r := x3) (g := g) (σ := σ) (x := a) (hR := hR) (hW := hW)) lk_X6_isActor w_5_154 [1] dX6_understudy_17 rfl rfl rfl ⟨by decide, by decide⟩ (Nat.le_of_ble_eq_true rfl) (st' := [.int (bP (vI a (sA σ))), .ref hM]) rfl ?_
    refine r_if_ne C (y := 0) (c9 := vI a (sA σ)) 27 dX6_understudy_20 (by decide) z_neB (fun h20_2 => ?_) (fun h20_2 => ?_)
    · exact absurd ⟨h9_1, h20_2⟩ hx
    · refine r_iconst C dX6_understudy_23 ki_1 ?_
      refine r_goto C 44 dX6_understudy_24 (by decide) ?_
      refine r_callV (rest := []) C (c_X6_refused (hM := hM) (rf := rf) (x1 := x1) (sz := sz) (x3 := x3) (x4 := x4) (x5 := x5) (ac := ac) (x7 := x7) (x8 := x8) (x9 := x9) (x10 := x10) (x11 := x11) (sp := sp) (ou := ou) (w := 1) (hw := (by omega))) lk_X6_refused w_5_116 [0] rfl dX6_understudy_44 rfl rfl rfl rfl ⟨by decide, by decide⟩ (Nat.le_of_ble_eq_true rfl) ?_
      rintro _ _ ⟨rfl, rfl⟩
      show ω [(hM, .inr (6, [.int (nI 1), .ref x1, .int (nI sz), .ref x3, .ref x4, .ref x5, .int (nI ac), .ref x7, .ref x8, .ref x9, .ref x10, .ref x11, .int (nI sp), .int (nI ou)])), (x3, .inl (eI E, 255, .inl g))] [(0, .ref hM), (1, .int p), (2, .int a)] [.int (bP (0 < 1))] 47
      refine r_if_eqF C (y := 0) (tgt := 52) dX6_understudy_47 (by decide) (fun z => ((by decide) : ¬ (¬ (0 < 1))) (z_eqB.mp z)) ?_
      refine r_iconst C dX6_understudy_50 ki_0 ?_
      exact RT.1 _ _ _ _ _ dX6_understudy_51 rfl rfl (⟨rfl, rfl⟩) rfl
set_option maxRecDepth 100000 in
set_option maxHeartbeats 1000000 in
theorem c_X6_understudy__x2 {l : Launch} {E : Ev} {hM rf x1 sz x3 x4 x5 ac x7 x8 x9 x10 x11 sp ou : Nat} {g : Nat → Int32} {σ : Sg} (hR : RepM σ g) (hW : Wf σ) {p a : Nat} (hp : p < sP σ) (ha : a < sA σ) (hx : ¬ (sC σ p < 4 ∧ rk σ p a = 0)) : Ct l E yX6_understudy cX6_understudy 3 (some FieldType.int) 3 68 [.ref hM, .int (nI p), .int (nI a)] [(hM, .inr (6, [.int (nI rf), .ref x1, .int (nI sz), .ref x3, .ref x4, .ref x5, .int (nI ac), .ref x7, .ref x8, .ref x9, .ref x10, .ref x11, .int (nI sp), .int (nI ou)])), (x3, .inl (eI E, 255, .inl g))] (fun v9 w9 => v9 = some (.int (nI 0)) ∧ w9 = [(hM, .inr (6, [.int (nI 2), .ref x1, .int (nI sz), .ref x3, .ref x4, .ref x5, .int (nI ac), .ref x7, .ref x8, .ref x9, .ref x10, .ref x11, .int (nI sp), .int (nI ou)])), (x3, .inl (eI E, 255, .inl g))]) := by
  have hwP := hW.P
  have hwA := hW.A
  have hwS := hW.S
  refine ct_of (by decide +kernel) (Nat.le_of_ble_eq_true rfl) (fun ω C RT => ?_)
  show ω [(hM, .inr (6, [.int (nI rf), .ref x1, .int (nI sz), .ref x3, .ref x4, .ref x5, .int (nI ac), .ref x7, .ref x8, .ref x9, .ref x10, .ref x11, .int (nI sp), .int (nI ou)])), (x3, .inl (eI E, 255, .inl g))] [(0, .ref hM), (1, .int (nI p)), (2, .int (nI a))] [] 0
  refine r_aload_n C (i := 0) 0 dX6_understudy_0 rfl rfl ?_
  refine r_aload_n C (i := 0) 0 dX6_understudy_1 rfl rfl ?_
  refine r_get C 0 3 uX6 rfl rfl (by decide) w_5_64 rfl dX6_understudy_2 ?_
  refine r_iload_n C (i := 1) 1 dX6_understudy_5 rfl rfl ?_
  refine r_readS (rest := [.ref hM]) C (c_X6_isPart (r := x3) (g := g) (σ := σ) (i := p) (hR := hR) (hW := hW) (hi := (by omega))) lk_X6_isPart w_5_151 [1] dX6_understudy_6 rfl rfl rfl ⟨by decide, by decide⟩ (Nat.le_of_ble_eq_true rfl) (st' := [.int (bP (p < sP σ)), .ref hM]) rfl ?_
  refine r_if_eq C (y := 0) (c9 := ¬ (p < sP σ)) 23 dX6_understudy_9 (by decide) z_eqB (fun h9_1 => ?_) (fun h9_1 => ?_)
  · refine r_iconst C dX6_understudy_23 ki_1 ?_
    refine r_goto C 44 dX6_understudy_24 (by decide) ?_
    first | (exfalso; omega) | (exfalso; simp_all; done)
  · replace h9_1 : p < sP σ := Decidable.not_not.mp h9_1
    refine r_aload_n C (i := 0) 0 dX6_understudy_12 rfl rfl ?_
    refine r_get C 0 3 uX6 rfl rfl (by decide) w_5_64 rfl dX6_understudy_13 ?_
    refine r_iload_n C (i := 2) 2 dX6_understudy_16 rfl rfl ?_
    refine r_readS (rest := [.ref hM]) C (c_X6_isActor (r := x3) (g := g) (σ := σ) (i := a) (hR := hR) (hW := hW) (hi := (by omega))) lk_X6_isActor w_5_154 [1] dX6_understudy_17 rfl rfl rfl ⟨by decide, by decide⟩ (Nat.le_of_ble_eq_true rfl) (st' := [.int (bP (a < sA σ)), .ref hM]) rfl ?_
    refine r_if_ne C (y := 0) (c9 := a < sA σ) 27 dX6_understudy_20 (by decide) z_neB (fun h20_2 => ?_) (fun h20_2 => ?_)
    · refine r_aload_n C (i := 0) 0 dX6_understudy_27 rfl rfl ?_
      refine r_get C 0 3 uX6 rfl rfl (by decide) w_5_64 rfl dX6_understudy_28 ?_
      refine r_iload_n C (i := 1) 1 dX6_understudy_31 rfl rfl ?_
      refine r_iload_n C (i := 2) 2 dX6_understudy_32 rfl rfl ?_
      refine r_readS (rest := [.ref hM]) C (c_X6_canStudy (r := x3) (g := g) (σ := σ) (p := p) (a := a) (hR := hR) (hW := hW) (hp := (by omega)) (ha := (by omega))) lk_X6_canStudy w_5_163 [1] dX6_understudy_33 rfl rfl rfl ⟨by decide, by decide⟩ (Nat.le_of_ble_eq_true rfl) (st' := [.int (bP (p < sP σ ∧ a < sA σ ∧ sC σ p < 4 ∧ rk σ p a = 0)), .ref hM]) rfl ?_
      refine r_if_eq C (y := 0) (c9 := ¬ (p < sP σ ∧ a < sA σ ∧ sC σ p < 4 ∧ rk σ p a = 0)) 43 dX6_understudy_36 (by decide) z_eqB (fun h36_3 => ?_) (fun h36_3 => ?_)
      · refine r_iconst C dX6_understudy_43 ki_2 ?_
        refine r_callV (rest := []) C (c_X6_refused (hM := hM) (rf := rf) (x1 := x1) (sz := sz) (x3 := x3) (x4 := x4) (x5 := x5) (ac := ac) (x7 := x7) (x8 := x8) (x9 := x9) (x10 := x10) (x11 := x11) (sp := sp) (ou := ou) (w := 2) (hw := (by omega))) lk_X6_refused w_5_116 [0] rfl dX6_understudy_44 rfl rfl rfl rfl ⟨by decide, by decide⟩ (Nat.le_of_ble_eq_true rfl) ?_
        rintro _ _ ⟨rfl, rfl⟩
        show ω [(hM, .inr (6, [.int (nI 2), .ref x1, .int (nI sz), .ref x3, .ref x4, .ref x5, .int (nI ac), .ref x7, .ref x8, .ref x9, .ref x10, .ref x11, .int (nI sp), .int (nI ou)])), (x3, .inl (eI E, 255, .inl g))] [(0, .ref hM), (1, .int (nI p)), (2, .int (nI a))] [.int (bP (0 < 2))] 47
        refine r_if_eqF C (y := 0) (tgt := 52) dX6_understudy_47 (by decide) (fun z => ((by decide) : ¬ (¬ (0 < 2))) (z_eqB.mp z)) ?_
        refine r_iconst C dX6_understudy_50 ki_0 ?_
        exact RT.1 _ _ _ _ _ dX6_understudy_51 rfl rfl (⟨rfl, rfl⟩) rfl
      · replace h36_3 : p < sP σ ∧ a < sA σ ∧ sC σ p < 4 ∧ rk σ p a = 0 := Decidable.not_not.mp h36_3
        refine r_iconst C dX6_understudy_39 ki_0 ?_
        refine r_goto C 44 dX6_understudy_40 (by decide) ?_
        first | (exfalso; omega) | (exfalso; simp_all; done)
    · refine r_iconst C dX6_understudy_23 ki_1 ?_
      refine r_goto C 44 dX6_understudy_24 (by decide) ?_
      first | (exfalso; omega) | (exfalso; simp_all; done)
set_option maxRecDepth 100000 in
set_option maxHeartbeats 1000000 in
theorem c_X6_release {l : Launch} {E : Ev} {hM rf x1 sz x3 x4 x5 ac x7 x8 x9 x10 x11 sp ou : Nat} {g : Nat → Int32} {σ : Sg} (hR : RepM σ g) (hW : Wf σ) {hs : Nat → Sg} {D : Nat → Int32} (hH : HistM hs ac D) {p a : Nat} (hp : p < sP σ) (ha : a < sA σ) (hrk : rk σ p a ≠ 0) : Ct l E yX6_release cX6_release 3 (some FieldType.int) 2 47 [.ref hM, .int (nI p), .int (nI a)] [(hM, .inr (6, [.int (nI rf), .ref x1, .int (nI sz), .ref x3, .ref x4, .ref x5, .int (nI ac), .ref x7, .ref x8, .ref x9, .ref x10, .ref x11, .int (nI sp), .int (nI ou)])), (x3, .inl (eI E, 255, .inl g)), (x5, .inl (eI E, 3570, .inl D))] (fun v9 w9 => ∃ g2 D2 : Nat → Int32, v9 = some (.int (nI (rk σ p a - 1))) ∧ w9 = [(hM, .inr (6, [.int (nI 0), .ref x1, .int (nI sz), .ref x3, .ref x4, .ref x5, .int (nI (pushN ac)), .ref x7, .ref x8, .ref x9, .ref x10, .ref x11, .int (nI sp), .int (nI ou)])), (x3, .inl (eI E, 255, .inl g2)), (x5, .inl (eI E, 3570, .inl D2))] ∧ RepM (oRel σ p (rk σ p a - 1)) g2 ∧ HistM (pushH hs ac σ) (pushN ac) D2) := by
  have hwP := hW.P
  have hwA := hW.A
  have hwS := hW.S
  have hrk_le := rk_le σ p a
  have hwC := hW.C hp
  refine ct_of (by decide +kernel) (Nat.le_of_ble_eq_true rfl) (fun ω C RT => ?_)
  show ω [(hM, .inr (6, [.int (nI rf), .ref x1, .int (nI sz), .ref x3, .ref x4, .ref x5, .int (nI ac), .ref x7, .ref x8, .ref x9, .ref x10, .ref x11, .int (nI sp), .int (nI ou)])), (x3, .inl (eI E, 255, .inl g)), (x5, .inl (eI E, 3570, .inl D))] [(0, .ref hM), (1, .int (nI p)), (2, .int (nI a))] [] 0
  refine r_aload_n C (i := 0) 0 dX6_release_0 rfl rfl ?_
  refine r_aload_n C (i := 0) 0 dX6_release_1 rfl rfl ?_
  refine r_get C 0 3 uX6 rfl rfl (by decide) w_5_64 rfl dX6_release_2 ?_
  refine r_iload_n C (i := 1) 1 dX6_release_5 rfl rfl ?_
  refine r_readS (rest := [.ref hM]) C (c_X6_isPart (r := x3) (g := g) (σ := σ) (i := p) (hR := hR) (hW := hW) (hi := (by omega))) lk_X6_isPart w_5_151 [1] dX6_release_6 rfl rfl rfl ⟨by decide, by decide⟩ (Nat.le_of_ble_eq_true rfl) (st' := [.int (bP (p < sP σ)), .ref hM]) rfl ?_
  refine r_if_eq C (y := 0) (c9 := ¬ (p < sP σ)) 23 dX6_release_9 (by decide) z_eqB (fun h9_1 => ?_) (fun h9_1 => ?_)
  · refine r_iconst C dX6_release_23 ki_1 ?_
    refine r_goto C 45 dX6_release_24 (by decide) ?_
    first | (exfalso; omega) | (exfalso; simp_all; done)
  · replace h9_1 : p < sP σ := Decidable.not_not.mp h9_1
    refine r_aload_n C (i := 0) 0 dX6_release_12 rfl rfl ?_
    refine r_get C 0 3 uX6 rfl rfl (by decide) w_5_64 rfl dX6_release_13 ?_
    refine r_iload_n C (i := 2) 2 dX6_release_16 rfl rfl ?_
    refine r_readS (rest := [.ref hM]) C (c_X6_isActor (r := x3) (g := g) (σ := σ) (i := a) (hR := hR) (hW := hW) (hi := (by omega))) lk_X6_isActor w_5_154 [1] dX6_release_17 rfl rfl rfl ⟨by decide, by decide⟩ (Nat.le_of_ble_eq_true rfl) (st' := [.int (bP (a < sA σ)), .ref hM]) rfl ?_
    refine r_if_ne C (y := 0) (c9 := a < sA σ) 27 dX6_release_20 (by decide) z_neB (fun h20_2 => ?_) (fun h20_2 => ?_)
    · refine r_aload_n C (i := 0) 0 dX6_release_27 rfl rfl ?_
      refine r_get C 0 3 uX6 rfl rfl (by decide) w_5_64 rfl dX6_release_28 ?_
      refine r_iload_n C (i := 1) 1 dX6_release_31 rfl rfl ?_
      refine r_iload_n C (i := 2) 2 dX6_release_32 rfl rfl ?_
      refine r_readS (rest := [.ref hM]) C (c_X6_rankOf (r := x3) (g := g) (σ := σ) (p := p) (a := a) (hR := hR) (hW := hW) (hp := (by omega)) (ha := (by omega))) lk_X6_rankOf w_5_166 [1] dX6_release_33 rfl rfl rfl ⟨by decide, by decide⟩ (Nat.le_of_ble_eq_true rfl) (st' := [.int (mI (rk σ p a)), .ref hM]) rfl ?_
      refine r_iconst C dX6_release_36 ki_m1 ?_
      refine r_icmp_ne C (c9 := rk σ p a ≠ 0) 44 dX6_release_37 (by decide) (c_neMM (by omega) (by omega)) (fun h37_3 => ?_) (fun h37_3 => ?_)
      · refine r_iconst C dX6_release_44 ki_0 ?_
        refine r_callV (rest := []) C (c_X6_refused (hM := hM) (rf := rf) (x1 := x1) (sz := sz) (x3 := x3) (x4 := x4) (x5 := x5) (ac := ac) (x7 := x7) (x8 := x8) (x9 := x9) (x10 := x10) (x11 := x11) (sp := sp) (ou := ou) (w := 0) (hw := (by omega))) lk_X6_refused w_5_116 [0] rfl dX6_release_45 rfl rfl rfl rfl ⟨by decide, by decide⟩ (Nat.le_of_ble_eq_true rfl) ?_
        rintro _ _ ⟨rfl, rfl⟩
        show ω [(hM, .inr (6, [.int (nI 0), .ref x1, .int (nI sz), .ref x3, .ref x4, .ref x5, .int (nI ac), .ref x7, .ref x8, .ref x9, .ref x10, .ref x11, .int (nI sp), .int (nI ou)])), (x3, .inl (eI E, 255, .inl g)), (x5, .inl (eI E, 3570, .inl D))] [(0, .ref hM), (1, .int (nI p)), (2, .int (nI a))] [.int (bP (0 < 0))] 48
        refine r_if_eqT C (y := 0) 53 dX6_release_48 (by decide) (z_eqB.mpr (by decide)) ?_
        refine r_aload_n C (i := 0) 0 dX6_release_53 rfl rfl ?_
        refine r_callV (rest := []) C (c_X6_remember (hM := hM) (rf := 0) (x1 := x1) (sz := sz) (x3 := x3) (x4 := x4) (x5 := x5) (ac := ac) (x7 := x7) (x8 := x8) (x9 := x9) (x10 := x10) (x11 := x11) (sp := sp) (ou := ou) (g := g) (σ := σ) (hs := hs) (D := D) (hR := hR) (hW := hW) (hH := hH)) lk_X6_remember w_6_54 [0, 1, 2] rfl dX6_release_54 rfl rfl rfl rfl ⟨by decide, by decide⟩ (Nat.le_of_ble_eq_true rfl) ?_
        rintro _ _ ⟨D_4, rfl, rfl, hH_5⟩
        show ω [(hM, .inr (6, [.int (nI 0), .ref x1, .int (nI sz), .ref x3, .ref x4, .ref x5, .int (nI (pushN ac)), .ref x7, .ref x8, .ref x9, .ref x10, .ref x11, .int (nI sp), .int (nI ou)])), (x3, .inl (eI E, 255, .inl g)), (x5, .inl (eI E, 3570, .inl D_4))] [(0, .ref hM), (1, .int (nI p)), (2, .int (nI a))] [] 57
        refine r_aload_n C (i := 0) 0 dX6_release_57 rfl rfl ?_
        refine r_get C 0 3 uX6 rfl rfl (by decide) w_5_64 rfl dX6_release_58 ?_
        refine r_iload_n C (i := 1) 1 dX6_release_61 rfl rfl ?_
        refine r_iload_n C (i := 2) 2 dX6_release_62 rfl rfl ?_
        refine r_callS (rest := []) C (c_X6_releaseOn (r := x3) (g := g) (σ := σ) (p := p) (a := a) (hR := hR) (hW := hW) (hp := (by omega)) (ha := (by omega)) (hrk := (by omega))) lk_X6_releaseOn w_6_74 [1] dX6_release_63 rfl rfl rfl ⟨by decide, by decide⟩ (Nat.le_of_ble_eq_true rfl) ?_
        rintro _ _ ⟨g_6, rfl, rfl, hR_7⟩
        have hW_8 : Wf (oRel σ p (rk σ p a - 1)) := oRel_wf hW
        show ω [(hM, .inr (6, [.int (nI 0), .ref x1, .int (nI sz), .ref x3, .ref x4, .ref x5, .int (nI (pushN ac)), .ref x7, .ref x8, .ref x9, .ref x10, .ref x11, .int (nI sp), .int (nI ou)])), (x3, .inl (eI E, 255, .inl g_6)), (x5, .inl (eI E, 3570, .inl D_4))] [(0, .ref hM), (1, .int (nI p)), (2, .int (nI a))] [.int (nI (rk σ p a - 1))] 66
        exact RT.1 _ _ _ _ _ dX6_release_66 rfl rfl (⟨_, _, rfl, rfl, hR_7, hH_5⟩) rfl
      · refine r_iconst C dX6_release_40 ki_2 ?_
        refine r_goto C 45 dX6_release_41 (by decide) ?_
        first | (exfalso; omega) | (exfalso; simp_all; done)
    · refine r_iconst C dX6_release_23 ki_1 ?_
      refine r_goto C 45 dX6_release_24 (by decide) ?_
      first | (exfalso; omega) | (exfalso; simp_all; done)
set_option maxRecDepth 100000 in
set_option maxHeartbeats 1000000 in
theorem c_X6_release__x1 {l : Launch} {E : Ev} {hM rf x1 sz x3 x4 x5 ac x7 x8 x9 x10 x11 sp ou : Nat} {g : Nat → Int32} {σ : Sg} (hR : RepM σ g) (hW : Wf σ) {p a : Int32} (hx : ¬ (vI p (sP σ) ∧ vI a (sA σ))) : Ct l E yX6_release cX6_release 3 (some FieldType.int) 2 47 [.ref hM, .int p, .int a] [(hM, .inr (6, [.int (nI rf), .ref x1, .int (nI sz), .ref x3, .ref x4, .ref x5, .int (nI ac), .ref x7, .ref x8, .ref x9, .ref x10, .ref x11, .int (nI sp), .int (nI ou)])), (x3, .inl (eI E, 255, .inl g))] (fun v9 w9 => v9 = some (.int (nI 0)) ∧ w9 = [(hM, .inr (6, [.int (nI 1), .ref x1, .int (nI sz), .ref x3, .ref x4, .ref x5, .int (nI ac), .ref x7, .ref x8, .ref x9, .ref x10, .ref x11, .int (nI sp), .int (nI ou)])), (x3, .inl (eI E, 255, .inl g))]) := by
  have hwP := hW.P
  have hwA := hW.A
  have hwS := hW.S
  refine ct_of (by decide +kernel) (Nat.le_of_ble_eq_true rfl) (fun ω C RT => ?_)
  show ω [(hM, .inr (6, [.int (nI rf), .ref x1, .int (nI sz), .ref x3, .ref x4, .ref x5, .int (nI ac), .ref x7, .ref x8, .ref x9, .ref x10, .ref x11, .int (nI sp), .int (nI ou)])), (x3, .inl (eI E, 255, .inl g))] [(0, .ref hM), (1, .int p), (2, .int a)] [] 0
  refine r_aload_n C (i := 0) 0 dX6_release_0 rfl rfl ?_
  refine r_aload_n C (i := 0) 0 dX6_release_1 rfl rfl ?_
  refine r_get C 0 3 uX6 rfl rfl (by decide) w_5_64 rfl dX6_release_2 ?_
  refine r_iload_n C (i := 1) 1 dX6_release_5 rfl rfl ?_
  refine r_readS (rest := [.ref hM]) C (c_X6_isPart__r (r := x3) (g := g) (σ := σ) (x := p) (hR := hR) (hW := hW)) lk_X6_isPart w_5_151 [1] dX6_release_6 rfl rfl rfl ⟨by decide, by decide⟩ (Nat.le_of_ble_eq_true rfl) (st' := [.int (bP (vI p (sP σ))), .ref hM]) rfl ?_
  refine r_if_eq C (y := 0) (c9 := ¬ (vI p (sP σ))) 23 dX6_release_9 (by decide) z_eqB (fun h9_1 => ?_) (fun h9_1 => ?_)
  · refine r_iconst C dX6_release_23 ki_1 ?_
    refine r_goto C 45 dX6_release_24 (by decide) ?_
    refine r_callV (rest := []) C (c_X6_refused (hM := hM) (rf := rf) (x1 := x1) (sz := sz) (x3 := x3) (x4 := x4) (x5 := x5) (ac := ac) (x7 := x7) (x8 := x8) (x9 := x9) (x10 := x10) (x11 := x11) (sp := sp) (ou := ou) (w := 1) (hw := (by omega))) lk_X6_refused w_5_116 [0] rfl dX6_release_45 rfl rfl rfl rfl ⟨by decide, by decide⟩ (Nat.le_of_ble_eq_true rfl) ?_
    rintro _ _ ⟨rfl, rfl⟩
    show ω [(hM, .inr (6, [.int (nI 1), .ref x1, .int (nI sz), .ref x3, .ref x4, .ref x5, .int (nI ac), .ref x7, .ref x8, .ref x9, .ref x10, .ref x11, .int (nI sp), .int (nI ou)])), (x3, .inl (eI E, 255, .inl g))] [(0, .ref hM), (1, .int p), (2, .int a)] [.int (bP (0 < 1))] 48
    refine r_if_eqF C (y := 0) (tgt := 53) dX6_release_48 (by decide) (fun z => ((by decide) : ¬ (¬ (0 < 1))) (z_eqB.mp z)) ?_
    refine r_iconst C dX6_release_51 ki_0 ?_
    exact RT.1 _ _ _ _ _ dX6_release_52 rfl rfl (⟨rfl, rfl⟩) rfl
  · replace h9_1 : vI p (sP σ) := Decidable.not_not.mp h9_1
    refine r_aload_n C (i := 0) 0 dX6_release_12 rfl rfl ?_
    refine r_get C 0 3 uX6 rfl rfl (by decide) w_5_64 rfl dX6_release_13 ?_
    refine r_iload_n C (i := 2) 2 dX6_release_16 rfl rfl ?_
    refine r_readS (rest := [.ref hM]) C (c_X6_isActor__r (r := x3) (g := g) (σ := σ) (x := a) (hR := hR) (hW := hW)) lk_X6_isActor w_5_154 [1] dX6_release_17 rfl rfl rfl ⟨by decide, by decide⟩ (Nat.le_of_ble_eq_true rfl) (st' := [.int (bP (vI a (sA σ))), .ref hM]) rfl ?_
    refine r_if_ne C (y := 0) (c9 := vI a (sA σ)) 27 dX6_release_20 (by decide) z_neB (fun h20_2 => ?_) (fun h20_2 => ?_)
    · exact absurd ⟨h9_1, h20_2⟩ hx
    · refine r_iconst C dX6_release_23 ki_1 ?_
      refine r_goto C 45 dX6_release_24 (by decide) ?_
      refine r_callV (rest := []) C (c_X6_refused (hM := hM) (rf := rf) (x1 := x1) (sz := sz) (x3 := x3) (x4 := x4) (x5 := x5) (ac := ac) (x7 := x7) (x8 := x8) (x9 := x9) (x10 := x10) (x11 := x11) (sp := sp) (ou := ou) (w := 1) (hw := (by omega))) lk_X6_refused w_5_116 [0] rfl dX6_release_45 rfl rfl rfl rfl ⟨by decide, by decide⟩ (Nat.le_of_ble_eq_true rfl) ?_
      rintro _ _ ⟨rfl, rfl⟩
      show ω [(hM, .inr (6, [.int (nI 1), .ref x1, .int (nI sz), .ref x3, .ref x4, .ref x5, .int (nI ac), .ref x7, .ref x8, .ref x9, .ref x10, .ref x11, .int (nI sp), .int (nI ou)])), (x3, .inl (eI E, 255, .inl g))] [(0, .ref hM), (1, .int p), (2, .int a)] [.int (bP (0 < 1))] 48
      refine r_if_eqF C (y := 0) (tgt := 53) dX6_release_48 (by decide) (fun z => ((by decide) : ¬ (¬ (0 < 1))) (z_eqB.mp z)) ?_
      refine r_iconst C dX6_release_51 ki_0 ?_
      exact RT.1 _ _ _ _ _ dX6_release_52 rfl rfl (⟨rfl, rfl⟩) rfl
set_option maxRecDepth 100000 in
set_option maxHeartbeats 1000000 in
theorem c_X6_release__x2 {l : Launch} {E : Ev} {hM rf x1 sz x3 x4 x5 ac x7 x8 x9 x10 x11 sp ou : Nat} {g : Nat → Int32} {σ : Sg} (hR : RepM σ g) (hW : Wf σ) {p a : Nat} (hp : p < sP σ) (ha : a < sA σ) (hx : rk σ p a = 0) : Ct l E yX6_release cX6_release 3 (some FieldType.int) 2 47 [.ref hM, .int (nI p), .int (nI a)] [(hM, .inr (6, [.int (nI rf), .ref x1, .int (nI sz), .ref x3, .ref x4, .ref x5, .int (nI ac), .ref x7, .ref x8, .ref x9, .ref x10, .ref x11, .int (nI sp), .int (nI ou)])), (x3, .inl (eI E, 255, .inl g))] (fun v9 w9 => v9 = some (.int (nI 0)) ∧ w9 = [(hM, .inr (6, [.int (nI 2), .ref x1, .int (nI sz), .ref x3, .ref x4, .ref x5, .int (nI ac), .ref x7, .ref x8, .ref x9, .ref x10, .ref x11, .int (nI sp), .int (nI ou)])), (x3, .inl (eI E, 255, .inl g))]) := by
  have hwP := hW.P
  have hwA := hW.A
  have hwS := hW.S
  have hwC := hW.C hp
  have hrk_le := rk_le σ p a
  refine ct_of (by decide +kernel) (Nat.le_of_ble_eq_true rfl) (fun ω C RT => ?_)
  show ω [(hM, .inr (6, [.int (nI rf), .ref x1, .int (nI sz), .ref x3, .ref x4, .ref x5, .int (nI ac), .ref x7, .ref x8, .ref x9, .ref x10, .ref x11, .int (nI sp), .int (nI ou)])), (x3, .inl (eI E, 255, .inl g))] [(0, .ref hM), (1, .int (nI p)), (2, .int (nI a))] [] 0
  refine r_aload_n C (i := 0) 0 dX6_release_0 rfl rfl ?_
  refine r_aload_n C (i := 0) 0 dX6_release_1 rfl rfl ?_
  refine r_get C 0 3 uX6 rfl rfl (by decide) w_5_64 rfl dX6_release_2 ?_
  refine r_iload_n C (i := 1) 1 dX6_release_5 rfl rfl ?_
  refine r_readS (rest := [.ref hM]) C (c_X6_isPart (r := x3) (g := g) (σ := σ) (i := p) (hR := hR) (hW := hW) (hi := (by omega))) lk_X6_isPart w_5_151 [1] dX6_release_6 rfl rfl rfl ⟨by decide, by decide⟩ (Nat.le_of_ble_eq_true rfl) (st' := [.int (bP (p < sP σ)), .ref hM]) rfl ?_
  refine r_if_eq C (y := 0) (c9 := ¬ (p < sP σ)) 23 dX6_release_9 (by decide) z_eqB (fun h9_1 => ?_) (fun h9_1 => ?_)
  · refine r_iconst C dX6_release_23 ki_1 ?_
    refine r_goto C 45 dX6_release_24 (by decide) ?_
    first | (exfalso; omega) | (exfalso; simp_all; done)
  · replace h9_1 : p < sP σ := Decidable.not_not.mp h9_1
    refine r_aload_n C (i := 0) 0 dX6_release_12 rfl rfl ?_
    refine r_get C 0 3 uX6 rfl rfl (by decide) w_5_64 rfl dX6_release_13 ?_
    refine r_iload_n C (i := 2) 2 dX6_release_16 rfl rfl ?_
    refine r_readS (rest := [.ref hM]) C (c_X6_isActor (r := x3) (g := g) (σ := σ) (i := a) (hR := hR) (hW := hW) (hi := (by omega))) lk_X6_isActor w_5_154 [1] dX6_release_17 rfl rfl rfl ⟨by decide, by decide⟩ (Nat.le_of_ble_eq_true rfl) (st' := [.int (bP (a < sA σ)), .ref hM]) rfl ?_
    refine r_if_ne C (y := 0) (c9 := a < sA σ) 27 dX6_release_20 (by decide) z_neB (fun h20_2 => ?_) (fun h20_2 => ?_)
    · refine r_aload_n C (i := 0) 0 dX6_release_27 rfl rfl ?_
      refine r_get C 0 3 uX6 rfl rfl (by decide) w_5_64 rfl dX6_release_28 ?_
      refine r_iload_n C (i := 1) 1 dX6_release_31 rfl rfl ?_
      refine r_iload_n C (i := 2) 2 dX6_release_32 rfl rfl ?_
      refine r_readS (rest := [.ref hM]) C (c_X6_rankOf (r := x3) (g := g) (σ := σ) (p := p) (a := a) (hR := hR) (hW := hW) (hp := (by omega)) (ha := (by omega))) lk_X6_rankOf w_5_166 [1] dX6_release_33 rfl rfl rfl ⟨by decide, by decide⟩ (Nat.le_of_ble_eq_true rfl) (st' := [.int (mI (rk σ p a)), .ref hM]) rfl ?_
      refine r_iconst C dX6_release_36 ki_m1 ?_
      refine r_icmp_ne C (c9 := rk σ p a ≠ 0) 44 dX6_release_37 (by decide) (c_neMM (by omega) (by omega)) (fun h37_3 => ?_) (fun h37_3 => ?_)
      · refine r_iconst C dX6_release_44 ki_0 ?_
        first | (exfalso; omega) | (exfalso; simp_all; done)
      · refine r_iconst C dX6_release_40 ki_2 ?_
        refine r_goto C 45 dX6_release_41 (by decide) ?_
        refine r_callV (rest := []) C (c_X6_refused (hM := hM) (rf := rf) (x1 := x1) (sz := sz) (x3 := x3) (x4 := x4) (x5 := x5) (ac := ac) (x7 := x7) (x8 := x8) (x9 := x9) (x10 := x10) (x11 := x11) (sp := sp) (ou := ou) (w := 2) (hw := (by omega))) lk_X6_refused w_5_116 [0] rfl dX6_release_45 rfl rfl rfl rfl ⟨by decide, by decide⟩ (Nat.le_of_ble_eq_true rfl) ?_
        rintro _ _ ⟨rfl, rfl⟩
        show ω [(hM, .inr (6, [.int (nI 2), .ref x1, .int (nI sz), .ref x3, .ref x4, .ref x5, .int (nI ac), .ref x7, .ref x8, .ref x9, .ref x10, .ref x11, .int (nI sp), .int (nI ou)])), (x3, .inl (eI E, 255, .inl g))] [(0, .ref hM), (1, .int (nI p)), (2, .int (nI a))] [.int (bP (0 < 2))] 48
        refine r_if_eqF C (y := 0) (tgt := 53) dX6_release_48 (by decide) (fun z => ((by decide) : ¬ (¬ (0 < 2))) (z_eqB.mp z)) ?_
        refine r_iconst C dX6_release_51 ki_0 ?_
        exact RT.1 _ _ _ _ _ dX6_release_52 rfl rfl (⟨rfl, rfl⟩) rfl
    · refine r_iconst C dX6_release_23 ki_1 ?_
      refine r_goto C 45 dX6_release_24 (by decide) ?_
      first | (exfalso; omega) | (exfalso; simp_all; done)
set_option maxRecDepth 100000 in
set_option maxHeartbeats 1000000 in
theorem c_X6_ill {l : Launch} {E : Ev} {hM rf x1 sz x3 x4 x5 ac x7 x8 x9 x10 x11 sp ou : Nat} {g : Nat → Int32} {σ : Sg} (hR : RepM σ g) (hW : Wf σ) {hs : Nat → Sg} {D : Nat → Int32} (hH : HistM hs ac D) {a n b : Nat} (ha : a < sA σ) (hn : n < 20) (hb : b ≤ 1) : Ct l E yX6_ill cX6_ill 4 (some FieldType.int) 2 46 [.ref hM, .int (nI a), .int (nI n), .int (nI b)] [(hM, .inr (6, [.int (nI rf), .ref x1, .int (nI sz), .ref x3, .ref x4, .ref x5, .int (nI ac), .ref x7, .ref x8, .ref x9, .ref x10, .ref x11, .int (nI sp), .int (nI ou)])), (x3, .inl (eI E, 255, .inl g)), (x5, .inl (eI E, 3570, .inl D))] (fun v9 w9 => ∃ g2 D2 : Nat → Int32, v9 = some (.int (nI (cntI (oIll σ a n b) a 20))) ∧ w9 = [(hM, .inr (6, [.int (nI 0), .ref x1, .int (nI sz), .ref x3, .ref x4, .ref x5, .int (nI (pushN ac)), .ref x7, .ref x8, .ref x9, .ref x10, .ref x11, .int (nI sp), .int (nI ou)])), (x3, .inl (eI E, 255, .inl g2)), (x5, .inl (eI E, 3570, .inl D2))] ∧ RepM (oIll σ a n b) g2 ∧ HistM (pushH hs ac σ) (pushN ac) D2) := by
  have hwP := hW.P
  have hwA := hW.A
  have hwS := hW.S
  refine ct_of (by decide +kernel) (Nat.le_of_ble_eq_true rfl) (fun ω C RT => ?_)
  show ω [(hM, .inr (6, [.int (nI rf), .ref x1, .int (nI sz), .ref x3, .ref x4, .ref x5, .int (nI ac), .ref x7, .ref x8, .ref x9, .ref x10, .ref x11, .int (nI sp), .int (nI ou)])), (x3, .inl (eI E, 255, .inl g)), (x5, .inl (eI E, 3570, .inl D))] [(0, .ref hM), (1, .int (nI a)), (2, .int (nI n)), (3, .int (nI b))] [] 0
  refine r_aload_n C (i := 0) 0 dX6_ill_0 rfl rfl ?_
  refine r_aload_n C (i := 0) 0 dX6_ill_1 rfl rfl ?_
  refine r_get C 0 3 uX6 rfl rfl (by decide) w_5_64 rfl dX6_ill_2 ?_
  refine r_iload_n C (i := 1) 1 dX6_ill_5 rfl rfl ?_
  refine r_readS (rest := [.ref hM]) C (c_X6_isActor (r := x3) (g := g) (σ := σ) (i := a) (hR := hR) (hW := hW) (hi := (by omega))) lk_X6_isActor w_5_154 [1] dX6_ill_6 rfl rfl rfl ⟨by decide, by decide⟩ (Nat.le_of_ble_eq_true rfl) (st' := [.int (bP (a < sA σ)), .ref hM]) rfl ?_
  refine r_if_eq C (y := 0) (c9 := ¬ (a < sA σ)) 23 dX6_ill_9 (by decide) z_eqB (fun h9_1 => ?_) (fun h9_1 => ?_)
  · refine r_iconst C dX6_ill_23 ki_1 ?_
    first | (exfalso; omega) | (exfalso; simp_all; done)
  · replace h9_1 : a < sA σ := Decidable.not_not.mp h9_1
    refine r_iload_n C (i := 2) 2 dX6_ill_12 rfl rfl ?_
    refine r_readS (rest := [.ref hM]) C (c_X6_isNight (i := n) (hi := (by omega))) lk_X6_isNight w_5_185 [] dX6_ill_13 rfl rfl rfl ⟨by decide, by decide⟩ (Nat.le_of_ble_eq_true rfl) (st' := [.int (bP (n ≤ 19)), .ref hM]) rfl ?_
    refine r_if_eq C (y := 0) (c9 := ¬ (n ≤ 19)) 23 dX6_ill_16 (by decide) z_eqB (fun h16_2 => ?_) (fun h16_2 => ?_)
    · refine r_iconst C dX6_ill_23 ki_1 ?_
      first | (exfalso; omega) | (exfalso; simp_all; done)
    · replace h16_2 : n ≤ 19 := Decidable.not_not.mp h16_2
      refine r_iconst C dX6_ill_19 ki_0 ?_
      refine r_goto C 24 dX6_ill_20 (by decide) ?_
      refine r_callV (rest := []) C (c_X6_refused (hM := hM) (rf := rf) (x1 := x1) (sz := sz) (x3 := x3) (x4 := x4) (x5 := x5) (ac := ac) (x7 := x7) (x8 := x8) (x9 := x9) (x10 := x10) (x11 := x11) (sp := sp) (ou := ou) (w := 0) (hw := (by omega))) lk_X6_refused w_5_116 [0] rfl dX6_ill_24 rfl rfl rfl rfl ⟨by decide, by decide⟩ (Nat.le_of_ble_eq_true rfl) ?_
      rintro _ _ ⟨rfl, rfl⟩
      show ω [(hM, .inr (6, [.int (nI 0), .ref x1, .int (nI sz), .ref x3, .ref x4, .ref x5, .int (nI ac), .ref x7, .ref x8, .ref x9, .ref x10, .ref x11, .int (nI sp), .int (nI ou)])), (x3, .inl (eI E, 255, .inl g)), (x5, .inl (eI E, 3570, .inl D))] [(0, .ref hM), (1, .int (nI a)), (2, .int (nI n)), (3, .int (nI b))] [.int (bP (0 < 0))] 27
      refine r_if_eqT C (y := 0) 32 dX6_ill_27 (by decide) (z_eqB.mpr (by decide)) ?_
      refine r_aload_n C (i := 0) 0 dX6_ill_32 rfl rfl ?_
      refine r_callV (rest := []) C (c_X6_remember (hM := hM) (rf := 0) (x1 := x1) (sz := sz) (x3 := x3) (x4 := x4) (x5 := x5) (ac := ac) (x7 := x7) (x8 := x8) (x9 := x9) (x10 := x10) (x11 := x11) (sp := sp) (ou := ou) (g := g) (σ := σ) (hs := hs) (D := D) (hR := hR) (hW := hW) (hH := hH)) lk_X6_remember w_6_54 [0, 1, 2] rfl dX6_ill_33 rfl rfl rfl rfl ⟨by decide, by decide⟩ (Nat.le_of_ble_eq_true rfl) ?_
      rintro _ _ ⟨D_3, rfl, rfl, hH_4⟩
      show ω [(hM, .inr (6, [.int (nI 0), .ref x1, .int (nI sz), .ref x3, .ref x4, .ref x5, .int (nI (pushN ac)), .ref x7, .ref x8, .ref x9, .ref x10, .ref x11, .int (nI sp), .int (nI ou)])), (x3, .inl (eI E, 255, .inl g)), (x5, .inl (eI E, 3570, .inl D_3))] [(0, .ref hM), (1, .int (nI a)), (2, .int (nI n)), (3, .int (nI b))] [] 36
      refine r_aload_n C (i := 0) 0 dX6_ill_36 rfl rfl ?_
      refine r_get C 0 3 uX6 rfl rfl (by decide) w_5_64 rfl dX6_ill_37 ?_
      refine r_iload_n C (i := 1) 1 dX6_ill_40 rfl rfl ?_
      refine r_iload_n C (i := 2) 2 dX6_ill_41 rfl rfl ?_
      refine r_iload_n C (i := 3) 3 dX6_ill_42 rfl rfl ?_
      refine r_callS (rest := []) C (c_X6_illOn (r := x3) (g := g) (σ := σ) (a := a) (n := n) (b := b) (hR := hR) (hW := hW) (ha := (by omega)) (hn := (by omega)) (hb := (by omega))) lk_X6_illOn w_5_172 [1] dX6_ill_43 rfl rfl rfl ⟨by decide, by decide⟩ (Nat.le_of_ble_eq_true rfl) ?_
      rintro _ _ ⟨g_5, rfl, rfl, hR_6⟩
      have hW_7 : Wf (oIll σ a n b) := oIll_wf hW (by omega) (by omega)
      show ω [(hM, .inr (6, [.int (nI 0), .ref x1, .int (nI sz), .ref x3, .ref x4, .ref x5, .int (nI (pushN ac)), .ref x7, .ref x8, .ref x9, .ref x10, .ref x11, .int (nI sp), .int (nI ou)])), (x3, .inl (eI E, 255, .inl g_5)), (x5, .inl (eI E, 3570, .inl D_3))] [(0, .ref hM), (1, .int (nI a)), (2, .int (nI n)), (3, .int (nI b))] [.int (nI (cntI (oIll σ a n b) a 20))] 46
      exact RT.1 _ _ _ _ _ dX6_ill_46 rfl rfl (⟨_, _, rfl, rfl, hR_6, hH_4⟩) rfl
set_option maxRecDepth 100000 in
set_option maxHeartbeats 1000000 in
theorem c_X6_ill__x1 {l : Launch} {E : Ev} {hM rf x1 sz x3 x4 x5 ac x7 x8 x9 x10 x11 sp ou : Nat} {g : Nat → Int32} {σ : Sg} (hR : RepM σ g) (hW : Wf σ) {a n b : Int32} (hx : ¬ (vI a (sA σ) ∧ vI n 20)) : Ct l E yX6_ill cX6_ill 4 (some FieldType.int) 2 46 [.ref hM, .int a, .int n, .int b] [(hM, .inr (6, [.int (nI rf), .ref x1, .int (nI sz), .ref x3, .ref x4, .ref x5, .int (nI ac), .ref x7, .ref x8, .ref x9, .ref x10, .ref x11, .int (nI sp), .int (nI ou)])), (x3, .inl (eI E, 255, .inl g))] (fun v9 w9 => v9 = some (.int (nI 0)) ∧ w9 = [(hM, .inr (6, [.int (nI 1), .ref x1, .int (nI sz), .ref x3, .ref x4, .ref x5, .int (nI ac), .ref x7, .ref x8, .ref x9, .ref x10, .ref x11, .int (nI sp), .int (nI ou)])), (x3, .inl (eI E, 255, .inl g))]) := by
  have hwP := hW.P
  have hwA := hW.A
  have hwS := hW.S
  refine ct_of (by decide +kernel) (Nat.le_of_ble_eq_true rfl) (fun ω C RT => ?_)
  show ω [(hM, .inr (6, [.int (nI rf), .ref x1, .int (nI sz), .ref x3, .ref x4, .ref x5, .int (nI ac), .ref x7, .ref x8, .ref x9, .ref x10, .ref x11, .int (nI sp), .int (nI ou)])), (x3, .inl (eI E, 255, .inl g))] [(0, .ref hM), (1, .int a), (2, .int n), (3, .int b)] [] 0
  refine r_aload_n C (i := 0) 0 dX6_ill_0 rfl rfl ?_
  refine r_aload_n C (i := 0) 0 dX6_ill_1 rfl rfl ?_
  refine r_get C 0 3 uX6 rfl rfl (by decide) w_5_64 rfl dX6_ill_2 ?_
  refine r_iload_n C (i := 1) 1 dX6_ill_5 rfl rfl ?_
  refine r_readS (rest := [.ref hM]) C (c_X6_isActor__r (r := x3) (g := g) (σ := σ) (x := a) (hR := hR) (hW := hW)) lk_X6_isActor w_5_154 [1] dX6_ill_6 rfl rfl rfl ⟨by decide, by decide⟩ (Nat.le_of_ble_eq_true rfl) (st' := [.int (bP (vI a (sA σ))), .ref hM]) rfl ?_
  refine r_if_eq C (y := 0) (c9 := ¬ (vI a (sA σ))) 23 dX6_ill_9 (by decide) z_eqB (fun h9_1 => ?_) (fun h9_1 => ?_)
  · refine r_iconst C dX6_ill_23 ki_1 ?_
    refine r_callV (rest := []) C (c_X6_refused (hM := hM) (rf := rf) (x1 := x1) (sz := sz) (x3 := x3) (x4 := x4) (x5 := x5) (ac := ac) (x7 := x7) (x8 := x8) (x9 := x9) (x10 := x10) (x11 := x11) (sp := sp) (ou := ou) (w := 1) (hw := (by omega))) lk_X6_refused w_5_116 [0] rfl dX6_ill_24 rfl rfl rfl rfl ⟨by decide, by decide⟩ (Nat.le_of_ble_eq_true rfl) ?_
    rintro _ _ ⟨rfl, rfl⟩
    show ω [(hM, .inr (6, [.int (nI 1), .ref x1, .int (nI sz), .ref x3, .ref x4, .ref x5, .int (nI ac), .ref x7, .ref x8, .ref x9, .ref x10, .ref x11, .int (nI sp), .int (nI ou)])), (x3, .inl (eI E, 255, .inl g))] [(0, .ref hM), (1, .int a), (2, .int n), (3, .int b)] [.int (bP (0 < 1))] 27
    refine r_if_eqF C (y := 0) (tgt := 32) dX6_ill_27 (by decide) (fun z => ((by decide) : ¬ (¬ (0 < 1))) (z_eqB.mp z)) ?_
    refine r_iconst C dX6_ill_30 ki_0 ?_
    exact RT.1 _ _ _ _ _ dX6_ill_31 rfl rfl (⟨rfl, rfl⟩) rfl
  · replace h9_1 : vI a (sA σ) := Decidable.not_not.mp h9_1
    refine r_iload_n C (i := 2) 2 dX6_ill_12 rfl rfl ?_
    refine r_readS (rest := [.ref hM]) C (c_X6_isNight__r (x := n) ) lk_X6_isNight w_5_185 [] dX6_ill_13 rfl rfl rfl ⟨by decide, by decide⟩ (Nat.le_of_ble_eq_true rfl) (st' := [.int (bP (vI n 20)), .ref hM]) rfl ?_
    refine r_if_eq C (y := 0) (c9 := ¬ (vI n 20)) 23 dX6_ill_16 (by decide) z_eqB (fun h16_2 => ?_) (fun h16_2 => ?_)
    · refine r_iconst C dX6_ill_23 ki_1 ?_
      refine r_callV (rest := []) C (c_X6_refused (hM := hM) (rf := rf) (x1 := x1) (sz := sz) (x3 := x3) (x4 := x4) (x5 := x5) (ac := ac) (x7 := x7) (x8 := x8) (x9 := x9) (x10 := x10) (x11 := x11) (sp := sp) (ou := ou) (w := 1) (hw := (by omega))) lk_X6_refused w_5_116 [0] rfl dX6_ill_24 rfl rfl rfl rfl ⟨by decide, by decide⟩ (Nat.le_of_ble_eq_true rfl) ?_
      rintro _ _ ⟨rfl, rfl⟩
      show ω [(hM, .inr (6, [.int (nI 1), .ref x1, .int (nI sz), .ref x3, .ref x4, .ref x5, .int (nI ac), .ref x7, .ref x8, .ref x9, .ref x10, .ref x11, .int (nI sp), .int (nI ou)])), (x3, .inl (eI E, 255, .inl g))] [(0, .ref hM), (1, .int a), (2, .int n), (3, .int b)] [.int (bP (0 < 1))] 27
      refine r_if_eqF C (y := 0) (tgt := 32) dX6_ill_27 (by decide) (fun z => ((by decide) : ¬ (¬ (0 < 1))) (z_eqB.mp z)) ?_
      refine r_iconst C dX6_ill_30 ki_0 ?_
      exact RT.1 _ _ _ _ _ dX6_ill_31 rfl rfl (⟨rfl, rfl⟩) rfl
    · replace h16_2 : vI n 20 := Decidable.not_not.mp h16_2
      refine r_iconst C dX6_ill_19 ki_0 ?_
      refine r_goto C 24 dX6_ill_20 (by decide) ?_
      first | (exfalso; omega) | (exfalso; simp_all; done)
set_option maxRecDepth 100000 in
set_option maxHeartbeats 1000000 in
theorem c_X6_slip {l : Launch} {E : Ev} {hM rf x1 sz x3 x4 x5 ac x7 x8 x9 x10 x11 sp ou : Nat} {g : Nat → Int32} {σ : Sg} (hR : RepM σ g) (hW : Wf σ) {hs : Nat → Sg} {D : Nat → Int32} (hH : HistM hs ac D) {n p a x : Nat} (hn : n < 20) (hp : p < sP σ) (ha : a < sA σ) (hx : x < 24) (hS : sS σ < 20) : Ct l E yX6_slip cX6_slip 5 (some FieldType.int) 3 69 [.ref hM, .int (nI n), .int (nI p), .int (nI a), .int (nI x)] [(hM, .inr (6, [.int (nI rf), .ref x1, .int (nI sz), .ref x3, .ref x4, .ref x5, .int (nI ac), .ref x7, .ref x8, .ref x9, .ref x10, .ref x11, .int (nI sp), .int (nI ou)])), (x3, .inl (eI E, 255, .inl g)), (x5, .inl (eI E, 3570, .inl D))] (fun v9 w9 => ∃ g2 D2 : Nat → Int32, v9 = some (.int (nI (sS σ))) ∧ w9 = [(hM, .inr (6, [.int (nI 0), .ref x1, .int (nI sz), .ref x3, .ref x4, .ref x5, .int (nI (pushN ac)), .ref x7, .ref x8, .ref x9, .ref x10, .ref x11, .int (nI sp), .int (nI ou)])), (x3, .inl (eI E, 255, .inl g2)), (x5, .inl (eI E, 3570, .inl D2))] ∧ RepM (oSlip σ n p a x) g2 ∧ HistM (pushH hs ac σ) (pushN ac) D2) := by
  have hwP := hW.P
  have hwA := hW.A
  have hwS := hW.S
  refine ct_of (by decide +kernel) (Nat.le_of_ble_eq_true rfl) (fun ω C RT => ?_)
  show ω [(hM, .inr (6, [.int (nI rf), .ref x1, .int (nI sz), .ref x3, .ref x4, .ref x5, .int (nI ac), .ref x7, .ref x8, .ref x9, .ref x10, .ref x11, .int (nI sp), .int (nI ou)])), (x3, .inl (eI E, 255, .inl g)), (x5, .inl (eI E, 3570, .inl D))] [(0, .ref hM), (1, .int (nI n)), (2, .int (nI p)), (3, .int (nI a)), (4, .int (nI x))] [] 0
  refine r_aload_n C (i := 0) 0 dX6_slip_0 rfl rfl ?_
  refine r_iload_n C (i := 1) 1 dX6_slip_1 rfl rfl ?_
  refine r_readS (rest := [.ref hM]) C (c_X6_isNight (i := n) (hi := (by omega))) lk_X6_isNight w_5_185 [] dX6_slip_2 rfl rfl rfl ⟨by decide, by decide⟩ (Nat.le_of_ble_eq_true rfl) (st' := [.int (bP (n ≤ 19)), .ref hM]) rfl ?_
  refine r_if_eq C (y := 0) (c9 := ¬ (n ≤ 19)) 30 dX6_slip_5 (by decide) z_eqB (fun h5_1 => ?_) (fun h5_1 => ?_)
  · refine r_iconst C dX6_slip_30 ki_1 ?_
    refine r_goto C 69 dX6_slip_31 (by decide) ?_
    first | (exfalso; omega) | (exfalso; simp_all; done)
  · replace h5_1 : n ≤ 19 := Decidable.not_not.mp h5_1
    refine r_aload_n C (i := 0) 0 dX6_slip_8 rfl rfl ?_
    refine r_get C 0 3 uX6 rfl rfl (by decide) w_5_64 rfl dX6_slip_9 ?_
    refine r_iload_n C (i := 2) 2 dX6_slip_12 rfl rfl ?_
    refine r_readS (rest := [.ref hM]) C (c_X6_isPart (r := x3) (g := g) (σ := σ) (i := p) (hR := hR) (hW := hW) (hi := (by omega))) lk_X6_isPart w_5_151 [1] dX6_slip_13 rfl rfl rfl ⟨by decide, by decide⟩ (Nat.le_of_ble_eq_true rfl) (st' := [.int (bP (p < sP σ)), .ref hM]) rfl ?_
    refine r_if_eq C (y := 0) (c9 := ¬ (p < sP σ)) 30 dX6_slip_16 (by decide) z_eqB (fun h16_2 => ?_) (fun h16_2 => ?_)
    · refine r_iconst C dX6_slip_30 ki_1 ?_
      refine r_goto C 69 dX6_slip_31 (by decide) ?_
      first | (exfalso; omega) | (exfalso; simp_all; done)
    · replace h16_2 : p < sP σ := Decidable.not_not.mp h16_2
      refine r_aload_n C (i := 0) 0 dX6_slip_19 rfl rfl ?_
      refine r_get C 0 3 uX6 rfl rfl (by decide) w_5_64 rfl dX6_slip_20 ?_
      refine r_iload_n C (i := 3) 3 dX6_slip_23 rfl rfl ?_
      refine r_readS (rest := [.ref hM]) C (c_X6_isActor (r := x3) (g := g) (σ := σ) (i := a) (hR := hR) (hW := hW) (hi := (by omega))) lk_X6_isActor w_5_154 [1] dX6_slip_24 rfl rfl rfl ⟨by decide, by decide⟩ (Nat.le_of_ble_eq_true rfl) (st' := [.int (bP (a < sA σ)), .ref hM]) rfl ?_
      refine r_if_ne C (y := 0) (c9 := a < sA σ) 34 dX6_slip_27 (by decide) z_neB (fun h27_3 => ?_) (fun h27_3 => ?_)
      · refine r_iload C (i := 4) 4 dX6_slip_34 rfl ?_
        refine r_i2l (v := lN x) C dX6_slip_36 (v_i2l (by omega)) ?_
        refine r_lconst (v := lN 0) C dX6_slip_37 (by decide +kernel) ?_
        refine r_ldc2 (v := lN 23) C dX6_slip_38 w_6_85 ?_
        refine r_readS (rest := [.ref hM]) C (c_X6_in (v := lN x) (lw := lN 0) (hg := lN 23)) lk_X6_in w_5_113 [] dX6_slip_41 rfl rfl rfl ⟨by decide, by decide⟩ (Nat.le_of_ble_eq_true rfl) (st' := [.int (bP (lN 0 ≤ lN x ∧ lN x ≤ lN 23)), .ref hM]) rfl ?_
        refine r_st (st' := [.int (bP (x ≤ 23)), .ref hM]) (by rw [bP_c (in_N (by omega) (by omega))]) ?_
        refine r_if_ne C (y := 0) (c9 := x ≤ 23) 51 dX6_slip_44 (by decide) z_neB (fun h44_4 => ?_) (fun h44_4 => ?_)
        · refine r_aload_n C (i := 0) 0 dX6_slip_51 rfl rfl ?_
          refine r_get C 0 3 uX6 rfl rfl (by decide) w_5_64 rfl dX6_slip_52 ?_
          refine r_iload_n C (i := 1) 1 dX6_slip_55 rfl rfl ?_
          refine r_iload_n C (i := 2) 2 dX6_slip_56 rfl rfl ?_
          refine r_iload_n C (i := 3) 3 dX6_slip_57 rfl rfl ?_
          refine r_readS (rest := [.ref hM]) C (c_X6_canSlip (r := x3) (g := g) (σ := σ) (n := n) (p := p) (a := a) (hR := hR) (hW := hW) (hn := (by omega)) (hp := (by omega)) (ha := (by omega))) lk_X6_canSlip w_5_182 [1] dX6_slip_58 rfl rfl rfl ⟨by decide, by decide⟩ (Nat.le_of_ble_eq_true rfl) (st' := [.int (bP (n < 20 ∧ p < sP σ ∧ a < sA σ ∧ sS σ < 20)), .ref hM]) rfl ?_
          refine r_if_eq C (y := 0) (c9 := ¬ (n < 20 ∧ p < sP σ ∧ a < sA σ ∧ sS σ < 20)) 68 dX6_slip_61 (by decide) z_eqB (fun h61_5 => ?_) (fun h61_5 => ?_)
          · refine r_iconst C dX6_slip_68 ki_3 ?_
            first | (exfalso; omega) | (exfalso; simp_all; done)
          · replace h61_5 : n < 20 ∧ p < sP σ ∧ a < sA σ ∧ sS σ < 20 := Decidable.not_not.mp h61_5
            refine r_iconst C dX6_slip_64 ki_0 ?_
            refine r_goto C 69 dX6_slip_65 (by decide) ?_
            refine r_callV (rest := []) C (c_X6_refused (hM := hM) (rf := rf) (x1 := x1) (sz := sz) (x3 := x3) (x4 := x4) (x5 := x5) (ac := ac) (x7 := x7) (x8 := x8) (x9 := x9) (x10 := x10) (x11 := x11) (sp := sp) (ou := ou) (w := 0) (hw := (by omega))) lk_X6_refused w_5_116 [0] rfl dX6_slip_69 rfl rfl rfl rfl ⟨by decide, by decide⟩ (Nat.le_of_ble_eq_true rfl) ?_
            rintro _ _ ⟨rfl, rfl⟩
            show ω [(hM, .inr (6, [.int (nI 0), .ref x1, .int (nI sz), .ref x3, .ref x4, .ref x5, .int (nI ac), .ref x7, .ref x8, .ref x9, .ref x10, .ref x11, .int (nI sp), .int (nI ou)])), (x3, .inl (eI E, 255, .inl g)), (x5, .inl (eI E, 3570, .inl D))] [(0, .ref hM), (1, .int (nI n)), (2, .int (nI p)), (3, .int (nI a)), (4, .int (nI x))] [.int (bP (0 < 0))] 72
            refine r_if_eqT C (y := 0) 77 dX6_slip_72 (by decide) (z_eqB.mpr (by decide)) ?_
            refine r_aload_n C (i := 0) 0 dX6_slip_77 rfl rfl ?_
            refine r_callV (rest := []) C (c_X6_remember (hM := hM) (rf := 0) (x1 := x1) (sz := sz) (x3 := x3) (x4 := x4) (x5 := x5) (ac := ac) (x7 := x7) (x8 := x8) (x9 := x9) (x10 := x10) (x11 := x11) (sp := sp) (ou := ou) (g := g) (σ := σ) (hs := hs) (D := D) (hR := hR) (hW := hW) (hH := hH)) lk_X6_remember w_6_54 [0, 1, 2] rfl dX6_slip_78 rfl rfl rfl rfl ⟨by decide, by decide⟩ (Nat.le_of_ble_eq_true rfl) ?_
            rintro _ _ ⟨D_6, rfl, rfl, hH_7⟩
            show ω [(hM, .inr (6, [.int (nI 0), .ref x1, .int (nI sz), .ref x3, .ref x4, .ref x5, .int (nI (pushN ac)), .ref x7, .ref x8, .ref x9, .ref x10, .ref x11, .int (nI sp), .int (nI ou)])), (x3, .inl (eI E, 255, .inl g)), (x5, .inl (eI E, 3570, .inl D_6))] [(0, .ref hM), (1, .int (nI n)), (2, .int (nI p)), (3, .int (nI a)), (4, .int (nI x))] [] 81
            refine r_aload_n C (i := 0) 0 dX6_slip_81 rfl rfl ?_
            refine r_get C 0 3 uX6 rfl rfl (by decide) w_5_64 rfl dX6_slip_82 ?_
            refine r_iload_n C (i := 1) 1 dX6_slip_85 rfl rfl ?_
            refine r_iload_n C (i := 2) 2 dX6_slip_86 rfl rfl ?_
            refine r_iload_n C (i := 3) 3 dX6_slip_87 rfl rfl ?_
            refine r_iload C (i := 4) 4 dX6_slip_88 rfl ?_
            refine r_callS (rest := []) C (c_X6_slipOn (r := x3) (g := g) (σ := σ) (n := n) (p := p) (a := a) (x := x) (hR := hR) (hW := hW) (hn := (by omega)) (hp := (by omega)) (ha := (by omega)) (hx := (by omega)) (hS := (by omega))) lk_X6_slipOn w_5_189 [1] dX6_slip_90 rfl rfl rfl ⟨by decide, by decide⟩ (Nat.le_of_ble_eq_true rfl) ?_
            rintro _ _ ⟨g_8, rfl, rfl, hR_9⟩
            have hW_10 : Wf (oSlip σ n p a x) := oSlip_wf hW (by omega) (by omega) (by omega) (by omega) (by omega)
            show ω [(hM, .inr (6, [.int (nI 0), .ref x1, .int (nI sz), .ref x3, .ref x4, .ref x5, .int (nI (pushN ac)), .ref x7, .ref x8, .ref x9, .ref x10, .ref x11, .int (nI sp), .int (nI ou)])), (x3, .inl (eI E, 255, .inl g_8)), (x5, .inl (eI E, 3570, .inl D_6))] [(0, .ref hM), (1, .int (nI n)), (2, .int (nI p)), (3, .int (nI a)), (4, .int (nI x))] [.int (nI (sS σ))] 93
            exact RT.1 _ _ _ _ _ dX6_slip_93 rfl rfl (⟨_, _, rfl, rfl, hR_9, hH_7⟩) rfl
        · refine r_iconst C dX6_slip_47 ki_2 ?_
          refine r_goto C 69 dX6_slip_48 (by decide) ?_
          first | (exfalso; omega) | (exfalso; simp_all; done)
      · refine r_iconst C dX6_slip_30 ki_1 ?_
        refine r_goto C 69 dX6_slip_31 (by decide) ?_
        first | (exfalso; omega) | (exfalso; simp_all; done)
set_option maxRecDepth 100000 in
set_option maxHeartbeats 1000000 in
theorem c_X6_slip__x1 {l : Launch} {E : Ev} {hM rf x1 sz x3 x4 x5 ac x7 x8 x9 x10 x11 sp ou : Nat} {g : Nat → Int32} {σ : Sg} (hR : RepM σ g) (hW : Wf σ) {n p a x : Int32} (hx : ¬ (vI n 20 ∧ vI p (sP σ) ∧ vI a (sA σ))) : Ct l E yX6_slip cX6_slip 5 (some FieldType.int) 3 69 [.ref hM, .int n, .int p, .int a, .int x] [(hM, .inr (6, [.int (nI rf), .ref x1, .int (nI sz), .ref x3, .ref x4, .ref x5, .int (nI ac), .ref x7, .ref x8, .ref x9, .ref x10, .ref x11, .int (nI sp), .int (nI ou)])), (x3, .inl (eI E, 255, .inl g))] (fun v9 w9 => v9 = some (.int (nI 0)) ∧ w9 = [(hM, .inr (6, [.int (nI 1), .ref x1, .int (nI sz), .ref x3, .ref x4, .ref x5, .int (nI ac), .ref x7, .ref x8, .ref x9, .ref x10, .ref x11, .int (nI sp), .int (nI ou)])), (x3, .inl (eI E, 255, .inl g))]) := by
  have hwP := hW.P
  have hwA := hW.A
  have hwS := hW.S
  refine ct_of (by decide +kernel) (Nat.le_of_ble_eq_true rfl) (fun ω C RT => ?_)
  show ω [(hM, .inr (6, [.int (nI rf), .ref x1, .int (nI sz), .ref x3, .ref x4, .ref x5, .int (nI ac), .ref x7, .ref x8, .ref x9, .ref x10, .ref x11, .int (nI sp), .int (nI ou)])), (x3, .inl (eI E, 255, .inl g))] [(0, .ref hM), (1, .int n), (2, .int p), (3, .int a), (4, .int x)] [] 0
  refine r_aload_n C (i := 0) 0 dX6_slip_0 rfl rfl ?_
  refine r_iload_n C (i := 1) 1 dX6_slip_1 rfl rfl ?_
  refine r_readS (rest := [.ref hM]) C (c_X6_isNight__r (x := n) ) lk_X6_isNight w_5_185 [] dX6_slip_2 rfl rfl rfl ⟨by decide, by decide⟩ (Nat.le_of_ble_eq_true rfl) (st' := [.int (bP (vI n 20)), .ref hM]) rfl ?_
  refine r_if_eq C (y := 0) (c9 := ¬ (vI n 20)) 30 dX6_slip_5 (by decide) z_eqB (fun h5_1 => ?_) (fun h5_1 => ?_)
  · refine r_iconst C dX6_slip_30 ki_1 ?_
    refine r_goto C 69 dX6_slip_31 (by decide) ?_
    refine r_callV (rest := []) C (c_X6_refused (hM := hM) (rf := rf) (x1 := x1) (sz := sz) (x3 := x3) (x4 := x4) (x5 := x5) (ac := ac) (x7 := x7) (x8 := x8) (x9 := x9) (x10 := x10) (x11 := x11) (sp := sp) (ou := ou) (w := 1) (hw := (by omega))) lk_X6_refused w_5_116 [0] rfl dX6_slip_69 rfl rfl rfl rfl ⟨by decide, by decide⟩ (Nat.le_of_ble_eq_true rfl) ?_
    rintro _ _ ⟨rfl, rfl⟩
    show ω [(hM, .inr (6, [.int (nI 1), .ref x1, .int (nI sz), .ref x3, .ref x4, .ref x5, .int (nI ac), .ref x7, .ref x8, .ref x9, .ref x10, .ref x11, .int (nI sp), .int (nI ou)])), (x3, .inl (eI E, 255, .inl g))] [(0, .ref hM), (1, .int n), (2, .int p), (3, .int a), (4, .int x)] [.int (bP (0 < 1))] 72
    refine r_if_eqF C (y := 0) (tgt := 77) dX6_slip_72 (by decide) (fun z => ((by decide) : ¬ (¬ (0 < 1))) (z_eqB.mp z)) ?_
    refine r_iconst C dX6_slip_75 ki_0 ?_
    exact RT.1 _ _ _ _ _ dX6_slip_76 rfl rfl (⟨rfl, rfl⟩) rfl
  · replace h5_1 : vI n 20 := Decidable.not_not.mp h5_1
    refine r_aload_n C (i := 0) 0 dX6_slip_8 rfl rfl ?_
    refine r_get C 0 3 uX6 rfl rfl (by decide) w_5_64 rfl dX6_slip_9 ?_
    refine r_iload_n C (i := 2) 2 dX6_slip_12 rfl rfl ?_
    refine r_readS (rest := [.ref hM]) C (c_X6_isPart__r (r := x3) (g := g) (σ := σ) (x := p) (hR := hR) (hW := hW)) lk_X6_isPart w_5_151 [1] dX6_slip_13 rfl rfl rfl ⟨by decide, by decide⟩ (Nat.le_of_ble_eq_true rfl) (st' := [.int (bP (vI p (sP σ))), .ref hM]) rfl ?_
    refine r_if_eq C (y := 0) (c9 := ¬ (vI p (sP σ))) 30 dX6_slip_16 (by decide) z_eqB (fun h16_2 => ?_) (fun h16_2 => ?_)
    · refine r_iconst C dX6_slip_30 ki_1 ?_
      refine r_goto C 69 dX6_slip_31 (by decide) ?_
      refine r_callV (rest := []) C (c_X6_refused (hM := hM) (rf := rf) (x1 := x1) (sz := sz) (x3 := x3) (x4 := x4) (x5 := x5) (ac := ac) (x7 := x7) (x8 := x8) (x9 := x9) (x10 := x10) (x11 := x11) (sp := sp) (ou := ou) (w := 1) (hw := (by omega))) lk_X6_refused w_5_116 [0] rfl dX6_slip_69 rfl rfl rfl rfl ⟨by decide, by decide⟩ (Nat.le_of_ble_eq_true rfl) ?_
      rintro _ _ ⟨rfl, rfl⟩
      show ω [(hM, .inr (6, [.int (nI 1), .ref x1, .int (nI sz), .ref x3, .ref x4, .ref x5, .int (nI ac), .ref x7, .ref x8, .ref x9, .ref x10, .ref x11, .int (nI sp), .int (nI ou)])), (x3, .inl (eI E, 255, .inl g))] [(0, .ref hM), (1, .int n), (2, .int p), (3, .int a), (4, .int x)] [.int (bP (0 < 1))] 72
      refine r_if_eqF C (y := 0) (tgt := 77) dX6_slip_72 (by decide) (fun z => ((by decide) : ¬ (¬ (0 < 1))) (z_eqB.mp z)) ?_
      refine r_iconst C dX6_slip_75 ki_0 ?_
      exact RT.1 _ _ _ _ _ dX6_slip_76 rfl rfl (⟨rfl, rfl⟩) rfl
    · replace h16_2 : vI p (sP σ) := Decidable.not_not.mp h16_2
      refine r_aload_n C (i := 0) 0 dX6_slip_19 rfl rfl ?_
      refine r_get C 0 3 uX6 rfl rfl (by decide) w_5_64 rfl dX6_slip_20 ?_
      refine r_iload_n C (i := 3) 3 dX6_slip_23 rfl rfl ?_
      refine r_readS (rest := [.ref hM]) C (c_X6_isActor__r (r := x3) (g := g) (σ := σ) (x := a) (hR := hR) (hW := hW)) lk_X6_isActor w_5_154 [1] dX6_slip_24 rfl rfl rfl ⟨by decide, by decide⟩ (Nat.le_of_ble_eq_true rfl) (st' := [.int (bP (vI a (sA σ))), .ref hM]) rfl ?_
      refine r_if_ne C (y := 0) (c9 := vI a (sA σ)) 34 dX6_slip_27 (by decide) z_neB (fun h27_3 => ?_) (fun h27_3 => ?_)
      · exact absurd ⟨h5_1, h16_2, h27_3⟩ hx
      · refine r_iconst C dX6_slip_30 ki_1 ?_
        refine r_goto C 69 dX6_slip_31 (by decide) ?_
        refine r_callV (rest := []) C (c_X6_refused (hM := hM) (rf := rf) (x1 := x1) (sz := sz) (x3 := x3) (x4 := x4) (x5 := x5) (ac := ac) (x7 := x7) (x8 := x8) (x9 := x9) (x10 := x10) (x11 := x11) (sp := sp) (ou := ou) (w := 1) (hw := (by omega))) lk_X6_refused w_5_116 [0] rfl dX6_slip_69 rfl rfl rfl rfl ⟨by decide, by decide⟩ (Nat.le_of_ble_eq_true rfl) ?_
        rintro _ _ ⟨rfl, rfl⟩
        show ω [(hM, .inr (6, [.int (nI 1), .ref x1, .int (nI sz), .ref x3, .ref x4, .ref x5, .int (nI ac), .ref x7, .ref x8, .ref x9, .ref x10, .ref x11, .int (nI sp), .int (nI ou)])), (x3, .inl (eI E, 255, .inl g))] [(0, .ref hM), (1, .int n), (2, .int p), (3, .int a), (4, .int x)] [.int (bP (0 < 1))] 72
        refine r_if_eqF C (y := 0) (tgt := 77) dX6_slip_72 (by decide) (fun z => ((by decide) : ¬ (¬ (0 < 1))) (z_eqB.mp z)) ?_
        refine r_iconst C dX6_slip_75 ki_0 ?_
        exact RT.1 _ _ _ _ _ dX6_slip_76 rfl rfl (⟨rfl, rfl⟩) rfl
set_option maxRecDepth 100000 in
set_option maxHeartbeats 1000000 in
theorem c_X6_slip__x2 {l : Launch} {E : Ev} {hM rf x1 sz x3 x4 x5 ac x7 x8 x9 x10 x11 sp ou : Nat} {g : Nat → Int32} {σ : Sg} (hR : RepM σ g) (hW : Wf σ) {n p a : Nat} {x : Int32} (hn : n < 20) (hp : p < sP σ) (ha : a < sA σ) (hx : ¬ vI x 24) : Ct l E yX6_slip cX6_slip 5 (some FieldType.int) 3 69 [.ref hM, .int (nI n), .int (nI p), .int (nI a), .int x] [(hM, .inr (6, [.int (nI rf), .ref x1, .int (nI sz), .ref x3, .ref x4, .ref x5, .int (nI ac), .ref x7, .ref x8, .ref x9, .ref x10, .ref x11, .int (nI sp), .int (nI ou)])), (x3, .inl (eI E, 255, .inl g))] (fun v9 w9 => v9 = some (.int (nI 0)) ∧ w9 = [(hM, .inr (6, [.int (nI 2), .ref x1, .int (nI sz), .ref x3, .ref x4, .ref x5, .int (nI ac), .ref x7, .ref x8, .ref x9, .ref x10, .ref x11, .int (nI sp), .int (nI ou)])), (x3, .inl (eI E, 255, .inl g))]) := by
  have hwP := hW.P
  have hwA := hW.A
  have hwS := hW.S
  refine ct_of (by decide +kernel) (Nat.le_of_ble_eq_true rfl) (fun ω C RT => ?_)
  show ω [(hM, .inr (6, [.int (nI rf), .ref x1, .int (nI sz), .ref x3, .ref x4, .ref x5, .int (nI ac), .ref x7, .ref x8, .ref x9, .ref x10, .ref x11, .int (nI sp), .int (nI ou)])), (x3, .inl (eI E, 255, .inl g))] [(0, .ref hM), (1, .int (nI n)), (2, .int (nI p)), (3, .int (nI a)), (4, .int x)] [] 0
  refine r_aload_n C (i := 0) 0 dX6_slip_0 rfl rfl ?_
  refine r_iload_n C (i := 1) 1 dX6_slip_1 rfl rfl ?_
  refine r_readS (rest := [.ref hM]) C (c_X6_isNight (i := n) (hi := (by omega))) lk_X6_isNight w_5_185 [] dX6_slip_2 rfl rfl rfl ⟨by decide, by decide⟩ (Nat.le_of_ble_eq_true rfl) (st' := [.int (bP (n ≤ 19)), .ref hM]) rfl ?_
  refine r_if_eq C (y := 0) (c9 := ¬ (n ≤ 19)) 30 dX6_slip_5 (by decide) z_eqB (fun h5_1 => ?_) (fun h5_1 => ?_)
  · refine r_iconst C dX6_slip_30 ki_1 ?_
    refine r_goto C 69 dX6_slip_31 (by decide) ?_
    first | (exfalso; omega) | (exfalso; simp_all; done)
  · replace h5_1 : n ≤ 19 := Decidable.not_not.mp h5_1
    refine r_aload_n C (i := 0) 0 dX6_slip_8 rfl rfl ?_
    refine r_get C 0 3 uX6 rfl rfl (by decide) w_5_64 rfl dX6_slip_9 ?_
    refine r_iload_n C (i := 2) 2 dX6_slip_12 rfl rfl ?_
    refine r_readS (rest := [.ref hM]) C (c_X6_isPart (r := x3) (g := g) (σ := σ) (i := p) (hR := hR) (hW := hW) (hi := (by omega))) lk_X6_isPart w_5_151 [1] dX6_slip_13 rfl rfl rfl ⟨by decide, by decide⟩ (Nat.le_of_ble_eq_true rfl) (st' := [.int (bP (p < sP σ)), .ref hM]) rfl ?_
    refine r_if_eq C (y := 0) (c9 := ¬ (p < sP σ)) 30 dX6_slip_16 (by decide) z_eqB (fun h16_2 => ?_) (fun h16_2 => ?_)
    · refine r_iconst C dX6_slip_30 ki_1 ?_
      refine r_goto C 69 dX6_slip_31 (by decide) ?_
      first | (exfalso; omega) | (exfalso; simp_all; done)
    · replace h16_2 : p < sP σ := Decidable.not_not.mp h16_2
      refine r_aload_n C (i := 0) 0 dX6_slip_19 rfl rfl ?_
      refine r_get C 0 3 uX6 rfl rfl (by decide) w_5_64 rfl dX6_slip_20 ?_
      refine r_iload_n C (i := 3) 3 dX6_slip_23 rfl rfl ?_
      refine r_readS (rest := [.ref hM]) C (c_X6_isActor (r := x3) (g := g) (σ := σ) (i := a) (hR := hR) (hW := hW) (hi := (by omega))) lk_X6_isActor w_5_154 [1] dX6_slip_24 rfl rfl rfl ⟨by decide, by decide⟩ (Nat.le_of_ble_eq_true rfl) (st' := [.int (bP (a < sA σ)), .ref hM]) rfl ?_
      refine r_if_ne C (y := 0) (c9 := a < sA σ) 34 dX6_slip_27 (by decide) z_neB (fun h27_3 => ?_) (fun h27_3 => ?_)
      · refine r_iload C (i := 4) 4 dX6_slip_34 rfl ?_
        refine r_i2l (v := (x).toInt64) C dX6_slip_36 rfl ?_
        refine r_lconst (v := lN 0) C dX6_slip_37 (by decide +kernel) ?_
        refine r_ldc2 (v := lN 23) C dX6_slip_38 w_6_85 ?_
        refine r_readS (rest := [.ref hM]) C (c_X6_in (v := (x).toInt64) (lw := lN 0) (hg := lN 23)) lk_X6_in w_5_113 [] dX6_slip_41 rfl rfl rfl ⟨by decide, by decide⟩ (Nat.le_of_ble_eq_true rfl) (st' := [.int (bP (lN 0 ≤ (x).toInt64 ∧ (x).toInt64 ≤ lN 23)), .ref hM]) rfl ?_
        refine r_st (st' := [.int (bP (vI x (24))), .ref hM]) (by rw [bP_c (in_r (by omega))]) ?_
        refine r_if_ne C (y := 0) (c9 := vI x (24)) 51 dX6_slip_44 (by decide) z_neB (fun h44_4 => ?_) (fun h44_4 => ?_)
        · exact absurd h44_4 hx
        · refine r_iconst C dX6_slip_47 ki_2 ?_
          refine r_goto C 69 dX6_slip_48 (by decide) ?_
          refine r_callV (rest := []) C (c_X6_refused (hM := hM) (rf := rf) (x1 := x1) (sz := sz) (x3 := x3) (x4 := x4) (x5 := x5) (ac := ac) (x7 := x7) (x8 := x8) (x9 := x9) (x10 := x10) (x11 := x11) (sp := sp) (ou := ou) (w := 2) (hw := (by omega))) lk_X6_refused w_5_116 [0] rfl dX6_slip_69 rfl rfl rfl rfl ⟨by decide, by decide⟩ (Nat.le_of_ble_eq_true rfl) ?_
          rintro _ _ ⟨rfl, rfl⟩
          show ω [(hM, .inr (6, [.int (nI 2), .ref x1, .int (nI sz), .ref x3, .ref x4, .ref x5, .int (nI ac), .ref x7, .ref x8, .ref x9, .ref x10, .ref x11, .int (nI sp), .int (nI ou)])), (x3, .inl (eI E, 255, .inl g))] [(0, .ref hM), (1, .int (nI n)), (2, .int (nI p)), (3, .int (nI a)), (4, .int x)] [.int (bP (0 < 2))] 72
          refine r_if_eqF C (y := 0) (tgt := 77) dX6_slip_72 (by decide) (fun z => ((by decide) : ¬ (¬ (0 < 2))) (z_eqB.mp z)) ?_
          refine r_iconst C dX6_slip_75 ki_0 ?_
          exact RT.1 _ _ _ _ _ dX6_slip_76 rfl rfl (⟨rfl, rfl⟩) rfl
      · refine r_iconst C dX6_slip_30 ki_1 ?_
        refine r_goto C 69 dX6_slip_31 (by decide) ?_
        first | (exfalso; omega) | (exfalso; simp_all; done)
set_option maxRecDepth 100000 in
set_option maxHeartbeats 1000000 in
theorem c_X6_slip__x3 {l : Launch} {E : Ev} {hM rf x1 sz x3 x4 x5 ac x7 x8 x9 x10 x11 sp ou : Nat} {g : Nat → Int32} {σ : Sg} (hR : RepM σ g) (hW : Wf σ) {n p a x : Nat} (hn : n < 20) (hp : p < sP σ) (ha : a < sA σ) (h24 : x < 24) (hx : ¬ sS σ < 20) : Ct l E yX6_slip cX6_slip 5 (some FieldType.int) 3 69 [.ref hM, .int (nI n), .int (nI p), .int (nI a), .int (nI x)] [(hM, .inr (6, [.int (nI rf), .ref x1, .int (nI sz), .ref x3, .ref x4, .ref x5, .int (nI ac), .ref x7, .ref x8, .ref x9, .ref x10, .ref x11, .int (nI sp), .int (nI ou)])), (x3, .inl (eI E, 255, .inl g))] (fun v9 w9 => v9 = some (.int (nI 0)) ∧ w9 = [(hM, .inr (6, [.int (nI 3), .ref x1, .int (nI sz), .ref x3, .ref x4, .ref x5, .int (nI ac), .ref x7, .ref x8, .ref x9, .ref x10, .ref x11, .int (nI sp), .int (nI ou)])), (x3, .inl (eI E, 255, .inl g))]) := by
  have hwP := hW.P
  have hwA := hW.A
  have hwS := hW.S
  refine ct_of (by decide +kernel) (Nat.le_of_ble_eq_true rfl) (fun ω C RT => ?_)
  show ω [(hM, .inr (6, [.int (nI rf), .ref x1, .int (nI sz), .ref x3, .ref x4, .ref x5, .int (nI ac), .ref x7, .ref x8, .ref x9, .ref x10, .ref x11, .int (nI sp), .int (nI ou)])), (x3, .inl (eI E, 255, .inl g))] [(0, .ref hM), (1, .int (nI n)), (2, .int (nI p)), (3, .int (nI a)), (4, .int (nI x))] [] 0
  refine r_aload_n C (i := 0) 0 dX6_slip_0 rfl rfl ?_
  refine r_iload_n C (i := 1) 1 dX6_slip_1 rfl rfl ?_
  refine r_readS (rest := [.ref hM]) C (c_X6_isNight (i := n) (hi := (by omega))) lk_X6_isNight w_5_185 [] dX6_slip_2 rfl rfl rfl ⟨by decide, by decide⟩ (Nat.le_of_ble_eq_true rfl) (st' := [.int (bP (n ≤ 19)), .ref hM]) rfl ?_
  refine r_if_eq C (y := 0) (c9 := ¬ (n ≤ 19)) 30 dX6_slip_5 (by decide) z_eqB (fun h5_1 => ?_) (fun h5_1 => ?_)
  · refine r_iconst C dX6_slip_30 ki_1 ?_
    refine r_goto C 69 dX6_slip_31 (by decide) ?_
    first | (exfalso; omega) | (exfalso; simp_all; done)
  · replace h5_1 : n ≤ 19 := Decidable.not_not.mp h5_1
    refine r_aload_n C (i := 0) 0 dX6_slip_8 rfl rfl ?_
    refine r_get C 0 3 uX6 rfl rfl (by decide) w_5_64 rfl dX6_slip_9 ?_
    refine r_iload_n C (i := 2) 2 dX6_slip_12 rfl rfl ?_
    refine r_readS (rest := [.ref hM]) C (c_X6_isPart (r := x3) (g := g) (σ := σ) (i := p) (hR := hR) (hW := hW) (hi := (by omega))) lk_X6_isPart w_5_151 [1] dX6_slip_13 rfl rfl rfl ⟨by decide, by decide⟩ (Nat.le_of_ble_eq_true rfl) (st' := [.int (bP (p < sP σ)), .ref hM]) rfl ?_
    refine r_if_eq C (y := 0) (c9 := ¬ (p < sP σ)) 30 dX6_slip_16 (by decide) z_eqB (fun h16_2 => ?_) (fun h16_2 => ?_)
    · refine r_iconst C dX6_slip_30 ki_1 ?_
      refine r_goto C 69 dX6_slip_31 (by decide) ?_
      first | (exfalso; omega) | (exfalso; simp_all; done)
    · replace h16_2 : p < sP σ := Decidable.not_not.mp h16_2
      refine r_aload_n C (i := 0) 0 dX6_slip_19 rfl rfl ?_
      refine r_get C 0 3 uX6 rfl rfl (by decide) w_5_64 rfl dX6_slip_20 ?_
      refine r_iload_n C (i := 3) 3 dX6_slip_23 rfl rfl ?_
      refine r_readS (rest := [.ref hM]) C (c_X6_isActor (r := x3) (g := g) (σ := σ) (i := a) (hR := hR) (hW := hW) (hi := (by omega))) lk_X6_isActor w_5_154 [1] dX6_slip_24 rfl rfl rfl ⟨by decide, by decide⟩ (Nat.le_of_ble_eq_true rfl) (st' := [.int (bP (a < sA σ)), .ref hM]) rfl ?_
      refine r_if_ne C (y := 0) (c9 := a < sA σ) 34 dX6_slip_27 (by decide) z_neB (fun h27_3 => ?_) (fun h27_3 => ?_)
      · refine r_iload C (i := 4) 4 dX6_slip_34 rfl ?_
        refine r_i2l (v := lN x) C dX6_slip_36 (v_i2l (by omega)) ?_
        refine r_lconst (v := lN 0) C dX6_slip_37 (by decide +kernel) ?_
        refine r_ldc2 (v := lN 23) C dX6_slip_38 w_6_85 ?_
        refine r_readS (rest := [.ref hM]) C (c_X6_in (v := lN x) (lw := lN 0) (hg := lN 23)) lk_X6_in w_5_113 [] dX6_slip_41 rfl rfl rfl ⟨by decide, by decide⟩ (Nat.le_of_ble_eq_true rfl) (st' := [.int (bP (lN 0 ≤ lN x ∧ lN x ≤ lN 23)), .ref hM]) rfl ?_
        refine r_st (st' := [.int (bP (x ≤ 23)), .ref hM]) (by rw [bP_c (in_N (by omega) (by omega))]) ?_
        refine r_if_ne C (y := 0) (c9 := x ≤ 23) 51 dX6_slip_44 (by decide) z_neB (fun h44_4 => ?_) (fun h44_4 => ?_)
        · refine r_aload_n C (i := 0) 0 dX6_slip_51 rfl rfl ?_
          refine r_get C 0 3 uX6 rfl rfl (by decide) w_5_64 rfl dX6_slip_52 ?_
          refine r_iload_n C (i := 1) 1 dX6_slip_55 rfl rfl ?_
          refine r_iload_n C (i := 2) 2 dX6_slip_56 rfl rfl ?_
          refine r_iload_n C (i := 3) 3 dX6_slip_57 rfl rfl ?_
          refine r_readS (rest := [.ref hM]) C (c_X6_canSlip (r := x3) (g := g) (σ := σ) (n := n) (p := p) (a := a) (hR := hR) (hW := hW) (hn := (by omega)) (hp := (by omega)) (ha := (by omega))) lk_X6_canSlip w_5_182 [1] dX6_slip_58 rfl rfl rfl ⟨by decide, by decide⟩ (Nat.le_of_ble_eq_true rfl) (st' := [.int (bP (n < 20 ∧ p < sP σ ∧ a < sA σ ∧ sS σ < 20)), .ref hM]) rfl ?_
          refine r_if_eq C (y := 0) (c9 := ¬ (n < 20 ∧ p < sP σ ∧ a < sA σ ∧ sS σ < 20)) 68 dX6_slip_61 (by decide) z_eqB (fun h61_5 => ?_) (fun h61_5 => ?_)
          · refine r_iconst C dX6_slip_68 ki_3 ?_
            refine r_callV (rest := []) C (c_X6_refused (hM := hM) (rf := rf) (x1 := x1) (sz := sz) (x3 := x3) (x4 := x4) (x5 := x5) (ac := ac) (x7 := x7) (x8 := x8) (x9 := x9) (x10 := x10) (x11 := x11) (sp := sp) (ou := ou) (w := 3) (hw := (by omega))) lk_X6_refused w_5_116 [0] rfl dX6_slip_69 rfl rfl rfl rfl ⟨by decide, by decide⟩ (Nat.le_of_ble_eq_true rfl) ?_
            rintro _ _ ⟨rfl, rfl⟩
            show ω [(hM, .inr (6, [.int (nI 3), .ref x1, .int (nI sz), .ref x3, .ref x4, .ref x5, .int (nI ac), .ref x7, .ref x8, .ref x9, .ref x10, .ref x11, .int (nI sp), .int (nI ou)])), (x3, .inl (eI E, 255, .inl g))] [(0, .ref hM), (1, .int (nI n)), (2, .int (nI p)), (3, .int (nI a)), (4, .int (nI x))] [.int (bP (0 < 3))] 72
            refine r_if_eqF C (y := 0) (tgt := 77) dX6_slip_72 (by decide) (fun z => ((by decide) : ¬ (¬ (0 < 3))) (z_eqB.mp z)) ?_
            refine r_iconst C dX6_slip_75 ki_0 ?_
            exact RT.1 _ _ _ _ _ dX6_slip_76 rfl rfl (⟨rfl, rfl⟩) rfl
          · replace h61_5 : n < 20 ∧ p < sP σ ∧ a < sA σ ∧ sS σ < 20 := Decidable.not_not.mp h61_5
            refine r_iconst C dX6_slip_64 ki_0 ?_
            refine r_goto C 69 dX6_slip_65 (by decide) ?_
            first | (exfalso; omega) | (exfalso; simp_all; done)
        · refine r_iconst C dX6_slip_47 ki_2 ?_
          refine r_goto C 69 dX6_slip_48 (by decide) ?_
          first | (exfalso; omega) | (exfalso; simp_all; done)
      · refine r_iconst C dX6_slip_30 ki_1 ?_
        refine r_goto C 69 dX6_slip_31 (by decide) ?_
        first | (exfalso; omega) | (exfalso; simp_all; done)
set_option maxRecDepth 100000 in
set_option maxHeartbeats 1000000 in
theorem c_X6_lose {l : Launch} {E : Ev} {hM rf x1 sz x3 x4 x5 ac x7 x8 x9 x10 x11 sp ou : Nat} {g : Nat → Int32} {σ : Sg} (hR : RepM σ g) (hW : Wf σ) {hs : Nat → Sg} {D : Nat → Int32} (hH : HistM hs ac D) {k : Nat} (hk : k < sS σ) : Ct l E yX6_lose cX6_lose 2 (some FieldType.int) 2 46 [.ref hM, .int (nI k)] [(hM, .inr (6, [.int (nI rf), .ref x1, .int (nI sz), .ref x3, .ref x4, .ref x5, .int (nI ac), .ref x7, .ref x8, .ref x9, .ref x10, .ref x11, .int (nI sp), .int (nI ou)])), (x3, .inl (eI E, 255, .inl g)), (x5, .inl (eI E, 3570, .inl D))] (fun v9 w9 => ∃ g2 D2 : Nat → Int32, v9 = some (.int (nI (sS σ - 1))) ∧ w9 = [(hM, .inr (6, [.int (nI 0), .ref x1, .int (nI sz), .ref x3, .ref x4, .ref x5, .int (nI (pushN ac)), .ref x7, .ref x8, .ref x9, .ref x10, .ref x11, .int (nI sp), .int (nI ou)])), (x3, .inl (eI E, 255, .inl g2)), (x5, .inl (eI E, 3570, .inl D2))] ∧ RepM (oLose σ k) g2 ∧ HistM (pushH hs ac σ) (pushN ac) D2) := by
  have hwP := hW.P
  have hwA := hW.A
  have hwS := hW.S
  refine ct_of (by decide +kernel) (Nat.le_of_ble_eq_true rfl) (fun ω C RT => ?_)
  show ω [(hM, .inr (6, [.int (nI rf), .ref x1, .int (nI sz), .ref x3, .ref x4, .ref x5, .int (nI ac), .ref x7, .ref x8, .ref x9, .ref x10, .ref x11, .int (nI sp), .int (nI ou)])), (x3, .inl (eI E, 255, .inl g)), (x5, .inl (eI E, 3570, .inl D))] [(0, .ref hM), (1, .int (nI k))] [] 0
  refine r_aload_n C (i := 0) 0 dX6_lose_0 rfl rfl ?_
  refine r_aload_n C (i := 0) 0 dX6_lose_1 rfl rfl ?_
  refine r_get C 0 3 uX6 rfl rfl (by decide) w_5_64 rfl dX6_lose_2 ?_
  refine r_iload_n C (i := 1) 1 dX6_lose_5 rfl rfl ?_
  refine r_readS (rest := [.ref hM]) C (c_X6_isSlip (r := x3) (g := g) (σ := σ) (i := k) (hR := hR) (hW := hW) (hi := (by omega))) lk_X6_isSlip w_6_43 [1] dX6_lose_6 rfl rfl rfl ⟨by decide, by decide⟩ (Nat.le_of_ble_eq_true rfl) (st' := [.int (bP (k < sS σ)), .ref hM]) rfl ?_
  refine r_if_eq C (y := 0) (c9 := ¬ (k < sS σ)) 16 dX6_lose_9 (by decide) z_eqB (fun h9_1 => ?_) (fun h9_1 => ?_)
  · refine r_iconst C dX6_lose_16 ki_1 ?_
    first | (exfalso; omega) | (exfalso; simp_all; done)
  · replace h9_1 : k < sS σ := Decidable.not_not.mp h9_1
    refine r_iconst C dX6_lose_12 ki_0 ?_
    refine r_goto C 17 dX6_lose_13 (by decide) ?_
    refine r_callV (rest := []) C (c_X6_refused (hM := hM) (rf := rf) (x1 := x1) (sz := sz) (x3 := x3) (x4 := x4) (x5 := x5) (ac := ac) (x7 := x7) (x8 := x8) (x9 := x9) (x10 := x10) (x11 := x11) (sp := sp) (ou := ou) (w := 0) (hw := (by omega))) lk_X6_refused w_5_116 [0] rfl dX6_lose_17 rfl rfl rfl rfl ⟨by decide, by decide⟩ (Nat.le_of_ble_eq_true rfl) ?_
    rintro _ _ ⟨rfl, rfl⟩
    show ω [(hM, .inr (6, [.int (nI 0), .ref x1, .int (nI sz), .ref x3, .ref x4, .ref x5, .int (nI ac), .ref x7, .ref x8, .ref x9, .ref x10, .ref x11, .int (nI sp), .int (nI ou)])), (x3, .inl (eI E, 255, .inl g)), (x5, .inl (eI E, 3570, .inl D))] [(0, .ref hM), (1, .int (nI k))] [.int (bP (0 < 0))] 20
    refine r_if_eqT C (y := 0) 25 dX6_lose_20 (by decide) (z_eqB.mpr (by decide)) ?_
    refine r_aload_n C (i := 0) 0 dX6_lose_25 rfl rfl ?_
    refine r_callV (rest := []) C (c_X6_remember (hM := hM) (rf := 0) (x1 := x1) (sz := sz) (x3 := x3) (x4 := x4) (x5 := x5) (ac := ac) (x7 := x7) (x8 := x8) (x9 := x9) (x10 := x10) (x11 := x11) (sp := sp) (ou := ou) (g := g) (σ := σ) (hs := hs) (D := D) (hR := hR) (hW := hW) (hH := hH)) lk_X6_remember w_6_54 [0, 1, 2] rfl dX6_lose_26 rfl rfl rfl rfl ⟨by decide, by decide⟩ (Nat.le_of_ble_eq_true rfl) ?_
    rintro _ _ ⟨D_2, rfl, rfl, hH_3⟩
    show ω [(hM, .inr (6, [.int (nI 0), .ref x1, .int (nI sz), .ref x3, .ref x4, .ref x5, .int (nI (pushN ac)), .ref x7, .ref x8, .ref x9, .ref x10, .ref x11, .int (nI sp), .int (nI ou)])), (x3, .inl (eI E, 255, .inl g)), (x5, .inl (eI E, 3570, .inl D_2))] [(0, .ref hM), (1, .int (nI k))] [] 29
    refine r_aload_n C (i := 0) 0 dX6_lose_29 rfl rfl ?_
    refine r_get C 0 3 uX6 rfl rfl (by decide) w_5_64 rfl dX6_lose_30 ?_
    refine r_iload_n C (i := 1) 1 dX6_lose_33 rfl rfl ?_
    refine r_callS (rest := []) C (c_X6_loseOn (r := x3) (g := g) (σ := σ) (k := k) (hR := hR) (hW := hW) (hk := (by omega))) lk_X6_loseOn w_6_90 [1] dX6_lose_34 rfl rfl rfl ⟨by decide, by decide⟩ (Nat.le_of_ble_eq_true rfl) ?_
    rintro _ _ ⟨g_4, rfl, rfl, hR_5⟩
    have hW_6 : Wf (oLose σ k) := oLose_wf hW
    show ω [(hM, .inr (6, [.int (nI 0), .ref x1, .int (nI sz), .ref x3, .ref x4, .ref x5, .int (nI (pushN ac)), .ref x7, .ref x8, .ref x9, .ref x10, .ref x11, .int (nI sp), .int (nI ou)])), (x3, .inl (eI E, 255, .inl g_4)), (x5, .inl (eI E, 3570, .inl D_2))] [(0, .ref hM), (1, .int (nI k))] [.int (nI (sS σ - 1))] 37
    exact RT.1 _ _ _ _ _ dX6_lose_37 rfl rfl (⟨_, _, rfl, rfl, hR_5, hH_3⟩) rfl
set_option maxRecDepth 100000 in
set_option maxHeartbeats 1000000 in
theorem c_X6_lose__x1 {l : Launch} {E : Ev} {hM rf x1 sz x3 x4 x5 ac x7 x8 x9 x10 x11 sp ou : Nat} {g : Nat → Int32} {σ : Sg} (hR : RepM σ g) (hW : Wf σ) {k : Int32} (hx : ¬ vI k (sS σ)) : Ct l E yX6_lose cX6_lose 2 (some FieldType.int) 2 46 [.ref hM, .int k] [(hM, .inr (6, [.int (nI rf), .ref x1, .int (nI sz), .ref x3, .ref x4, .ref x5, .int (nI ac), .ref x7, .ref x8, .ref x9, .ref x10, .ref x11, .int (nI sp), .int (nI ou)])), (x3, .inl (eI E, 255, .inl g))] (fun v9 w9 => v9 = some (.int (nI 0)) ∧ w9 = [(hM, .inr (6, [.int (nI 1), .ref x1, .int (nI sz), .ref x3, .ref x4, .ref x5, .int (nI ac), .ref x7, .ref x8, .ref x9, .ref x10, .ref x11, .int (nI sp), .int (nI ou)])), (x3, .inl (eI E, 255, .inl g))]) := by
  have hwP := hW.P
  have hwA := hW.A
  have hwS := hW.S
  refine ct_of (by decide +kernel) (Nat.le_of_ble_eq_true rfl) (fun ω C RT => ?_)
  show ω [(hM, .inr (6, [.int (nI rf), .ref x1, .int (nI sz), .ref x3, .ref x4, .ref x5, .int (nI ac), .ref x7, .ref x8, .ref x9, .ref x10, .ref x11, .int (nI sp), .int (nI ou)])), (x3, .inl (eI E, 255, .inl g))] [(0, .ref hM), (1, .int k)] [] 0
  refine r_aload_n C (i := 0) 0 dX6_lose_0 rfl rfl ?_
  refine r_aload_n C (i := 0) 0 dX6_lose_1 rfl rfl ?_
  refine r_get C 0 3 uX6 rfl rfl (by decide) w_5_64 rfl dX6_lose_2 ?_
  refine r_iload_n C (i := 1) 1 dX6_lose_5 rfl rfl ?_
  refine r_readS (rest := [.ref hM]) C (c_X6_isSlip__r (r := x3) (g := g) (σ := σ) (x := k) (hR := hR) (hW := hW)) lk_X6_isSlip w_6_43 [1] dX6_lose_6 rfl rfl rfl ⟨by decide, by decide⟩ (Nat.le_of_ble_eq_true rfl) (st' := [.int (bP (vI k (sS σ))), .ref hM]) rfl ?_
  refine r_if_eq C (y := 0) (c9 := ¬ (vI k (sS σ))) 16 dX6_lose_9 (by decide) z_eqB (fun h9_1 => ?_) (fun h9_1 => ?_)
  · refine r_iconst C dX6_lose_16 ki_1 ?_
    refine r_callV (rest := []) C (c_X6_refused (hM := hM) (rf := rf) (x1 := x1) (sz := sz) (x3 := x3) (x4 := x4) (x5 := x5) (ac := ac) (x7 := x7) (x8 := x8) (x9 := x9) (x10 := x10) (x11 := x11) (sp := sp) (ou := ou) (w := 1) (hw := (by omega))) lk_X6_refused w_5_116 [0] rfl dX6_lose_17 rfl rfl rfl rfl ⟨by decide, by decide⟩ (Nat.le_of_ble_eq_true rfl) ?_
    rintro _ _ ⟨rfl, rfl⟩
    show ω [(hM, .inr (6, [.int (nI 1), .ref x1, .int (nI sz), .ref x3, .ref x4, .ref x5, .int (nI ac), .ref x7, .ref x8, .ref x9, .ref x10, .ref x11, .int (nI sp), .int (nI ou)])), (x3, .inl (eI E, 255, .inl g))] [(0, .ref hM), (1, .int k)] [.int (bP (0 < 1))] 20
    refine r_if_eqF C (y := 0) (tgt := 25) dX6_lose_20 (by decide) (fun z => ((by decide) : ¬ (¬ (0 < 1))) (z_eqB.mp z)) ?_
    refine r_iconst C dX6_lose_23 ki_0 ?_
    exact RT.1 _ _ _ _ _ dX6_lose_24 rfl rfl (⟨rfl, rfl⟩) rfl
  · replace h9_1 : vI k (sS σ) := Decidable.not_not.mp h9_1
    refine r_iconst C dX6_lose_12 ki_0 ?_
    refine r_goto C 17 dX6_lose_13 (by decide) ?_
    first | (exfalso; omega) | (exfalso; simp_all; done)
set_option maxRecDepth 100000 in
set_option maxHeartbeats 1000000 in
theorem c_X6_set {l : Launch} {E : Ev} {hM rf x1 sz x3 x4 x5 ac x7 x8 x9 x10 x11 sp ou : Nat} {g : Nat → Int32} {σ : Sg} (hR : RepM σ g) (hW : Wf σ) {hs : Nat → Sg} {D : Nat → Int32} (hH : HistM hs ac D) {w v : Nat} (hw : w < 2) (hv : v ≤ (if w = 0 then 99 else 9)) : Ct l E yX6_set cX6_set 4 (some FieldType.int) 2 46 [.ref hM, .int (nI w), .int (nI v)] [(hM, .inr (6, [.int (nI rf), .ref x1, .int (nI sz), .ref x3, .ref x4, .ref x5, .int (nI ac), .ref x7, .ref x8, .ref x9, .ref x10, .ref x11, .int (nI sp), .int (nI ou)])), (x3, .inl (eI E, 255, .inl g)), (x5, .inl (eI E, 3570, .inl D))] (fun v9 w9 => ∃ g2 D2 : Nat → Int32, v9 = some (.int (nI (sO σ w))) ∧ w9 = [(hM, .inr (6, [.int (nI 0), .ref x1, .int (nI sz), .ref x3, .ref x4, .ref x5, .int (nI (pushN ac)), .ref x7, .ref x8, .ref x9, .ref x10, .ref x11, .int (nI sp), .int (nI ou)])), (x3, .inl (eI E, 255, .inl g2)), (x5, .inl (eI E, 3570, .inl D2))] ∧ RepM (oSet σ w v) g2 ∧ HistM (pushH hs ac σ) (pushN ac) D2) := by
  have hwP := hW.P
  have hwA := hW.A
  have hwS := hW.S
  have hv9 : v < 2147483648 := by split at hv <;> omega
  refine ct_of (by decide +kernel) (Nat.le_of_ble_eq_true rfl) (fun ω C RT => ?_)
  show ω [(hM, .inr (6, [.int (nI rf), .ref x1, .int (nI sz), .ref x3, .ref x4, .ref x5, .int (nI ac), .ref x7, .ref x8, .ref x9, .ref x10, .ref x11, .int (nI sp), .int (nI ou)])), (x3, .inl (eI E, 255, .inl g)), (x5, .inl (eI E, 3570, .inl D))] [(0, .ref hM), (1, .int (nI w)), (2, .int (nI v))] [] 0
  refine r_aload_n C (i := 0) 0 dX6_set_0 rfl rfl ?_
  refine r_iload_n C (i := 1) 1 dX6_set_1 rfl rfl ?_
  refine r_iload_n C (i := 2) 2 dX6_set_2 rfl rfl ?_
  refine r_readS (rest := [.ref hM]) C (c_X6_isSetting (w := w) (v := v) (hw := (by omega)) (hv := (by omega))) lk_X6_isSetting w_6_97 [] dX6_set_3 rfl rfl rfl ⟨by decide, by decide⟩ (Nat.le_of_ble_eq_true rfl) (st' := [.int (bP (w ≤ 1 ∧ v ≤ (if w = 0 then 99 else 9))), .ref hM]) rfl ?_
  refine r_if_eqF C (y := 0) (tgt := 13) dX6_set_6 (by decide) (fun z => ((fun z => z ⟨by omega, hv⟩) : ¬ (¬ (w ≤ 1 ∧ v ≤ (if w = 0 then 99 else 9)))) (z_eqB.mp z)) ?_
  refine r_iconst C dX6_set_9 ki_0 ?_
  refine r_goto C 14 dX6_set_10 (by decide) ?_
  refine r_callV (rest := []) C (c_X6_refused (hM := hM) (rf := rf) (x1 := x1) (sz := sz) (x3 := x3) (x4 := x4) (x5 := x5) (ac := ac) (x7 := x7) (x8 := x8) (x9 := x9) (x10 := x10) (x11 := x11) (sp := sp) (ou := ou) (w := 0) (hw := (by omega))) lk_X6_refused w_5_116 [0] rfl dX6_set_14 rfl rfl rfl rfl ⟨by decide, by decide⟩ (Nat.le_of_ble_eq_true rfl) ?_
  rintro _ _ ⟨rfl, rfl⟩
  show ω [(hM, .inr (6, [.int (nI 0), .ref x1, .int (nI sz), .ref x3, .ref x4, .ref x5, .int (nI ac), .ref x7, .ref x8, .ref x9, .ref x10, .ref x11, .int (nI sp), .int (nI ou)])), (x3, .inl (eI E, 255, .inl g)), (x5, .inl (eI E, 3570, .inl D))] [(0, .ref hM), (1, .int (nI w)), (2, .int (nI v))] [.int (bP (0 < 0))] 17
  refine r_if_eqT C (y := 0) 22 dX6_set_17 (by decide) (z_eqB.mpr (by decide)) ?_
  refine r_aload_n C (i := 0) 0 dX6_set_22 rfl rfl ?_
  refine r_callV (rest := []) C (c_X6_remember (hM := hM) (rf := 0) (x1 := x1) (sz := sz) (x3 := x3) (x4 := x4) (x5 := x5) (ac := ac) (x7 := x7) (x8 := x8) (x9 := x9) (x10 := x10) (x11 := x11) (sp := sp) (ou := ou) (g := g) (σ := σ) (hs := hs) (D := D) (hR := hR) (hW := hW) (hH := hH)) lk_X6_remember w_6_54 [0, 1, 2] rfl dX6_set_23 rfl rfl rfl rfl ⟨by decide, by decide⟩ (Nat.le_of_ble_eq_true rfl) ?_
  rintro _ _ ⟨D_1, rfl, rfl, hH_2⟩
  show ω [(hM, .inr (6, [.int (nI 0), .ref x1, .int (nI sz), .ref x3, .ref x4, .ref x5, .int (nI (pushN ac)), .ref x7, .ref x8, .ref x9, .ref x10, .ref x11, .int (nI sp), .int (nI ou)])), (x3, .inl (eI E, 255, .inl g)), (x5, .inl (eI E, 3570, .inl D_1))] [(0, .ref hM), (1, .int (nI w)), (2, .int (nI v))] [] 26
  refine r_aload_n C (i := 0) 0 dX6_set_26 rfl rfl ?_
  refine r_get C 0 3 uX6 rfl rfl (by decide) w_5_64 rfl dX6_set_27 ?_
  refine r_iconst C dX6_set_30 ki_3 ?_
  refine r_iload_n C (i := 1) 1 dX6_set_31 rfl rfl ?_
  refine r_iadd (v := nI (3 + w)) C dX6_set_32 (nI_add _ _) ?_
  refine r_iald (j := 3 + w) (v := nI (sO σ w)) C 1 rfl (by omega) (by decide) (hR.O hw) dX6_set_33 ?_
  refine r_istore_n C (lv' := [(3, .int (nI (sO σ w))), (0, .ref hM), (1, .int (nI w)), (2, .int (nI v))]) dX6_set_34 rfl (by decide) rfl ?_
  refine r_aload_n C (i := 0) 1 dX6_set_35 rfl rfl ?_
  refine r_get C 0 3 uX6 rfl rfl (by decide) w_5_64 rfl dX6_set_36 ?_
  refine r_iconst C dX6_set_39 ki_3 ?_
  refine r_iload_n C (i := 1) 2 dX6_set_40 rfl rfl ?_
  refine r_iadd (v := nI (3 + w)) C dX6_set_41 (nI_add _ _) ?_
  refine r_iload_n C (i := 2) 3 dX6_set_42 rfl rfl ?_
  refine r_iast (j := 3 + w) (ws' := [(hM, .inr (6, [.int (nI 0), .ref x1, .int (nI sz), .ref x3, .ref x4, .ref x5, .int (nI (pushN ac)), .ref x7, .ref x8, .ref x9, .ref x10, .ref x11, .int (nI sp), .int (nI ou)])), (x3, .inl (eI E, 255, .inl (upd g (3 + w) (nI v)))), (x5, .inl (eI E, 3570, .inl D_1))]) C 1 rfl (by omega) (by decide) rfl dX6_set_43 ?_
  refine r_iload_n C (i := 3) 0 dX6_set_44 rfl rfl ?_
  exact RT.1 _ _ _ _ _ dX6_set_45 rfl rfl (⟨_, _, rfl, rfl, RepM_set hR hW hw, hH_2⟩) rfl
set_option maxRecDepth 100000 in
set_option maxHeartbeats 1000000 in
theorem c_X6_set__x1 {l : Launch} {E : Ev} {hM rf x1 sz x3 x4 x5 ac x7 x8 x9 x10 x11 sp ou : Nat} {g : Nat → Int32} {σ : Sg} (hR : RepM σ g) (hW : Wf σ) {w v : Int32} (hx : ¬ (vI w 2 ∧ vI v (if w = 0 then 100 else 10))) : Ct l E yX6_set cX6_set 4 (some FieldType.int) 2 46 [.ref hM, .int w, .int v] [(hM, .inr (6, [.int (nI rf), .ref x1, .int (nI sz), .ref x3, .ref x4, .ref x5, .int (nI ac), .ref x7, .ref x8, .ref x9, .ref x10, .ref x11, .int (nI sp), .int (nI ou)])), (x3, .inl (eI E, 255, .inl g))] (fun v9 w9 => v9 = some (.int (nI 0)) ∧ w9 = [(hM, .inr (6, [.int (nI 1), .ref x1, .int (nI sz), .ref x3, .ref x4, .ref x5, .int (nI ac), .ref x7, .ref x8, .ref x9, .ref x10, .ref x11, .int (nI sp), .int (nI ou)])), (x3, .inl (eI E, 255, .inl g))]) := by
  have hwP := hW.P
  have hwA := hW.A
  have hwS := hW.S
  refine ct_of (by decide +kernel) (Nat.le_of_ble_eq_true rfl) (fun ω C RT => ?_)
  show ω [(hM, .inr (6, [.int (nI rf), .ref x1, .int (nI sz), .ref x3, .ref x4, .ref x5, .int (nI ac), .ref x7, .ref x8, .ref x9, .ref x10, .ref x11, .int (nI sp), .int (nI ou)])), (x3, .inl (eI E, 255, .inl g))] [(0, .ref hM), (1, .int w), (2, .int v)] [] 0
  refine r_aload_n C (i := 0) 0 dX6_set_0 rfl rfl ?_
  refine r_iload_n C (i := 1) 1 dX6_set_1 rfl rfl ?_
  refine r_iload_n C (i := 2) 2 dX6_set_2 rfl rfl ?_
  refine r_readS (rest := [.ref hM]) C (c_X6_isSetting__r (w := w) (v := v) ) lk_X6_isSetting w_6_97 [] dX6_set_3 rfl rfl rfl ⟨by decide, by decide⟩ (Nat.le_of_ble_eq_true rfl) (st' := [.int (bP (vI w 2 ∧ vI v (if w = 0 then 100 else 10))), .ref hM]) rfl ?_
  refine r_if_eqT C (y := 0) 13 dX6_set_6 (by decide) (z_eqB.mpr hx) ?_
  refine r_iconst C dX6_set_13 ki_1 ?_
  refine r_callV (rest := []) C (c_X6_refused (hM := hM) (rf := rf) (x1 := x1) (sz := sz) (x3 := x3) (x4 := x4) (x5 := x5) (ac := ac) (x7 := x7) (x8 := x8) (x9 := x9) (x10 := x10) (x11 := x11) (sp := sp) (ou := ou) (w := 1) (hw := (by omega))) lk_X6_refused w_5_116 [0] rfl dX6_set_14 rfl rfl rfl rfl ⟨by decide, by decide⟩ (Nat.le_of_ble_eq_true rfl) ?_
  rintro _ _ ⟨rfl, rfl⟩
  show ω [(hM, .inr (6, [.int (nI 1), .ref x1, .int (nI sz), .ref x3, .ref x4, .ref x5, .int (nI ac), .ref x7, .ref x8, .ref x9, .ref x10, .ref x11, .int (nI sp), .int (nI ou)])), (x3, .inl (eI E, 255, .inl g))] [(0, .ref hM), (1, .int w), (2, .int v)] [.int (bP (0 < 1))] 17
  refine r_if_eqF C (y := 0) (tgt := 22) dX6_set_17 (by decide) (fun z => ((by decide) : ¬ (¬ (0 < 1))) (z_eqB.mp z)) ?_
  refine r_iconst C dX6_set_20 ki_0 ?_
  exact RT.1 _ _ _ _ _ dX6_set_21 rfl rfl (⟨rfl, rfl⟩) rfl
set_option maxRecDepth 100000 in
set_option maxHeartbeats 1000000 in
theorem c_X6_undo {l : Launch} {E : Ev} {hM rf x1 sz x3 x4 x5 ac x7 x8 x9 x10 x11 sp ou : Nat} {g : Nat → Int32} {σ : Sg} (hR : RepM σ g) (hW : Wf σ) {hs : Nat → Sg} {D : Nat → Int32} (hH : HistM hs ac D) (hac : 0 < ac) : Ct l E yX6_undo cX6_undo 1 (some FieldType.int) 1 24 [.ref hM] [(hM, .inr (6, [.int (nI rf), .ref x1, .int (nI sz), .ref x3, .ref x4, .ref x5, .int (nI ac), .ref x7, .ref x8, .ref x9, .ref x10, .ref x11, .int (nI sp), .int (nI ou)])), (x3, .inl (eI E, 255, .inl g)), (x5, .inl (eI E, 3570, .inl D))] (fun v9 w9 => ∃ g2 : Nat → Int32, v9 = some (.int (nI (ac - 1))) ∧ w9 = [(hM, .inr (6, [.int (nI 0), .ref x1, .int (nI sz), .ref x3, .ref x4, .ref x5, .int (nI (ac - 1)), .ref x7, .ref x8, .ref x9, .ref x10, .ref x11, .int (nI sp), .int (nI ou)])), (x3, .inl (eI E, 255, .inl g2)), (x5, .inl (eI E, 3570, .inl D))] ∧ RepM (hs (ac - 1)) g2 ∧ HistM hs (ac - 1) D) := by
  have hwP := hW.P
  have hwA := hW.A
  have hwS := hW.S
  have hac9 := hH.1
  refine ct_of (by decide +kernel) (Nat.le_of_ble_eq_true rfl) (fun ω C RT => ?_)
  show ω [(hM, .inr (6, [.int (nI rf), .ref x1, .int (nI sz), .ref x3, .ref x4, .ref x5, .int (nI ac), .ref x7, .ref x8, .ref x9, .ref x10, .ref x11, .int (nI sp), .int (nI ou)])), (x3, .inl (eI E, 255, .inl g)), (x5, .inl (eI E, 3570, .inl D))] [(0, .ref hM)] [] 0
  refine r_aload_n C (i := 0) 0 dX6_undo_0 rfl rfl ?_
  refine r_aload_n C (i := 0) 0 dX6_undo_1 rfl rfl ?_
  refine r_get C 0 6 uX6 rfl rfl (by decide) w_5_67 rfl dX6_undo_2 ?_
  refine r_if_ne C (y := 0) (c9 := ac ≠ 0) 12 dX6_undo_5 (by decide) (z_neN (by omega)) (fun h5_1 => ?_) (fun h5_1 => ?_)
  · refine r_iconst C dX6_undo_12 ki_0 ?_
    refine r_callV (rest := []) C (c_X6_refused (hM := hM) (rf := rf) (x1 := x1) (sz := sz) (x3 := x3) (x4 := x4) (x5 := x5) (ac := ac) (x7 := x7) (x8 := x8) (x9 := x9) (x10 := x10) (x11 := x11) (sp := sp) (ou := ou) (w := 0) (hw := (by omega))) lk_X6_refused w_5_116 [0] rfl dX6_undo_13 rfl rfl rfl rfl ⟨by decide, by decide⟩ (Nat.le_of_ble_eq_true rfl) ?_
    rintro _ _ ⟨rfl, rfl⟩
    show ω [(hM, .inr (6, [.int (nI 0), .ref x1, .int (nI sz), .ref x3, .ref x4, .ref x5, .int (nI ac), .ref x7, .ref x8, .ref x9, .ref x10, .ref x11, .int (nI sp), .int (nI ou)])), (x3, .inl (eI E, 255, .inl g)), (x5, .inl (eI E, 3570, .inl D))] [(0, .ref hM)] [.int (bP (0 < 0))] 16
    refine r_if_eqT C (y := 0) 21 dX6_undo_16 (by decide) (z_eqB.mpr (by decide)) ?_
    refine r_aload_n C (i := 0) 0 dX6_undo_21 rfl rfl ?_
    refine r_dup C dX6_undo_22 rfl ?_
    refine r_get C 0 6 uX6 rfl rfl (by decide) w_5_67 rfl dX6_undo_23 ?_
    refine r_iconst C dX6_undo_26 ki_1 ?_
    refine r_isub (v := nI (ac - 1)) C dX6_undo_27 (v_sub (by omega)) ?_
    refine r_put (ws' := [(hM, .inr (6, [.int (nI 0), .ref x1, .int (nI sz), .ref x3, .ref x4, .ref x5, .int (nI (ac - 1)), .ref x7, .ref x8, .ref x9, .ref x10, .ref x11, .int (nI sp), .int (nI ou)])), (x3, .inl (eI E, 255, .inl g)), (x5, .inl (eI E, 3570, .inl D))]) C 0 6 uX6 rfl tyX6_ok nmX6 rfl (by decide) w_5_67 rfl (tyX6_ok 6 (by decide)) rfl rfl (Nat.le_of_ble_eq_true rfl) rfl dX6_undo_28 ?_
    refine r_aload_n C (i := 0) 0 dX6_undo_31 rfl rfl ?_
    refine r_get C 0 5 uX6 rfl rfl (by decide) w_5_66 rfl dX6_undo_32 ?_
    refine r_sipush C dX6_undo_35 ks_255 ?_
    refine r_aload_n C (i := 0) 0 dX6_undo_38 rfl rfl ?_
    refine r_get C 0 6 uX6 rfl rfl (by decide) w_5_67 rfl dX6_undo_39 ?_
    refine r_imul (v := nI (255 * (ac - 1))) C dX6_undo_42 (pk_mul _ _) ?_
    refine r_aload_n C (i := 0) 0 dX6_undo_43 rfl rfl ?_
    refine r_get C 0 3 uX6 rfl rfl (by decide) w_5_64 rfl dX6_undo_44 ?_
    refine r_iconst C dX6_undo_47 ki_0 ?_
    refine r_callS (rest := []) C (c_X6_copyState__3570_255 (q2 := x5) (q3 := x3) (fa := 255 * (ac - 1)) (ta := 0) (F := D) (F2 := g) (hf := (by omega)) (ht := (by omega))) lk_X6_copyState w_5_196 [2, 1] dX6_undo_48 rfl rfl rfl ⟨by decide, by decide⟩ (Nat.le_of_ble_eq_true rfl) ?_
    rintro _ _ ⟨rfl, rfl⟩
    show ω [(hM, .inr (6, [.int (nI 0), .ref x1, .int (nI sz), .ref x3, .ref x4, .ref x5, .int (nI (ac - 1)), .ref x7, .ref x8, .ref x9, .ref x10, .ref x11, .int (nI sp), .int (nI ou)])), (x3, .inl (eI E, 255, .inl (va_cpy D g (255 * (ac - 1)) 0 255))), (x5, .inl (eI E, 3570, .inl D))] [(0, .ref hM)] [] 51
    refine r_aload_n C (i := 0) 0 dX6_undo_51 rfl rfl ?_
    refine r_get C 0 6 uX6 rfl rfl (by decide) w_5_67 rfl dX6_undo_52 ?_
    exact RT.1 _ _ _ _ _ dX6_undo_55 rfl rfl (⟨_, rfl, rfl, RepM_eq (hH.2 (ac - 1) (by omega)).1 (hH.2 (ac - 1) (by omega)).2 (fun j hj => cpyWhole hj), ⟨by omega, fun k hk => hH.2 k (by omega)⟩⟩) rfl
  · refine r_iconst C dX6_undo_8 ki_1 ?_
    refine r_goto C 13 dX6_undo_9 (by decide) ?_
    first | (exfalso; omega) | (exfalso; simp_all; done)
set_option maxRecDepth 100000 in
set_option maxHeartbeats 1000000 in
theorem c_X6_undo__x1 {l : Launch} {E : Ev} {hM rf x1 sz x3 x4 x5 ac x7 x8 x9 x10 x11 sp ou : Nat} {g : Nat → Int32} {σ : Sg} (hR : RepM σ g) (hW : Wf σ)  (hx : ac = 0) : Ct l E yX6_undo cX6_undo 1 (some FieldType.int) 1 24 [.ref hM] [(hM, .inr (6, [.int (nI rf), .ref x1, .int (nI sz), .ref x3, .ref x4, .ref x5, .int (nI ac), .ref x7, .ref x8, .ref x9, .ref x10, .ref x11, .int (nI sp), .int (nI ou)])), (x3, .inl (eI E, 255, .inl g))] (fun v9 w9 => v9 = some (.int (nI 0)) ∧ w9 = [(hM, .inr (6, [.int (nI 1), .ref x1, .int (nI sz), .ref x3, .ref x4, .ref x5, .int (nI ac), .ref x7, .ref x8, .ref x9, .ref x10, .ref x11, .int (nI sp), .int (nI ou)])), (x3, .inl (eI E, 255, .inl g))]) := by
  have hwP := hW.P
  have hwA := hW.A
  have hwS := hW.S
  refine ct_of (by decide +kernel) (Nat.le_of_ble_eq_true rfl) (fun ω C RT => ?_)
  show ω [(hM, .inr (6, [.int (nI rf), .ref x1, .int (nI sz), .ref x3, .ref x4, .ref x5, .int (nI ac), .ref x7, .ref x8, .ref x9, .ref x10, .ref x11, .int (nI sp), .int (nI ou)])), (x3, .inl (eI E, 255, .inl g))] [(0, .ref hM)] [] 0
  refine r_aload_n C (i := 0) 0 dX6_undo_0 rfl rfl ?_
  refine r_aload_n C (i := 0) 0 dX6_undo_1 rfl rfl ?_
  refine r_get C 0 6 uX6 rfl rfl (by decide) w_5_67 rfl dX6_undo_2 ?_
  refine r_if_ne C (y := 0) (c9 := ac ≠ 0) 12 dX6_undo_5 (by decide) (z_neN (by omega)) (fun h5_1 => ?_) (fun h5_1 => ?_)
  · refine r_iconst C dX6_undo_12 ki_0 ?_
    first | (exfalso; omega) | (exfalso; simp_all; done)
  · refine r_iconst C dX6_undo_8 ki_1 ?_
    refine r_goto C 13 dX6_undo_9 (by decide) ?_
    refine r_callV (rest := []) C (c_X6_refused (hM := hM) (rf := rf) (x1 := x1) (sz := sz) (x3 := x3) (x4 := x4) (x5 := x5) (ac := ac) (x7 := x7) (x8 := x8) (x9 := x9) (x10 := x10) (x11 := x11) (sp := sp) (ou := ou) (w := 1) (hw := (by omega))) lk_X6_refused w_5_116 [0] rfl dX6_undo_13 rfl rfl rfl rfl ⟨by decide, by decide⟩ (Nat.le_of_ble_eq_true rfl) ?_
    rintro _ _ ⟨rfl, rfl⟩
    show ω [(hM, .inr (6, [.int (nI 1), .ref x1, .int (nI sz), .ref x3, .ref x4, .ref x5, .int (nI ac), .ref x7, .ref x8, .ref x9, .ref x10, .ref x11, .int (nI sp), .int (nI ou)])), (x3, .inl (eI E, 255, .inl g))] [(0, .ref hM)] [.int (bP (0 < 1))] 16
    refine r_if_eqF C (y := 0) (tgt := 21) dX6_undo_16 (by decide) (fun z => ((by decide) : ¬ (¬ (0 < 1))) (z_eqB.mp z)) ?_
    refine r_iconst C dX6_undo_19 ki_0 ?_
    exact RT.1 _ _ _ _ _ dX6_undo_20 rfl rfl (⟨rfl, rfl⟩) rfl
set_option maxRecDepth 100000 in
set_option maxHeartbeats 1000000 in
theorem c_X6_find {l : Launch} {E : Ev} {hM rf x1 sz x3 x4 x5 ac x7 x8 x9 x10 x11 sp ou : Nat} {t1 t2 t3 : Nat → Int32} {g : Nat → Int32} {σ : Sg} (hR : RepM σ g) (hW : Wf σ) {p a k : Nat} (hp : p < sP σ) (ha : a < sA σ) (hk : k < 2147483648) : Ct l E yX6_find cX6_find 6 (some FieldType.int) 5 122 [.ref hM, .int (nI p), .int (nI a), .int (nI k)] [(hM, .inr (6, [.int (nI rf), .ref x1, .int (nI sz), .ref x3, .ref x4, .ref x5, .int (nI ac), .ref x7, .ref x8, .ref x9, .ref x10, .ref x11, .int (nI sp), .int (nI ou)])), (x9, .inl (eI E, 6, .inl t1)), (x10, .inl (eI E, 6, .inl t2)), (x11, .inl (eI E, 6, .inl t3)), (x3, .inl (eI E, 255, .inl g))] (fun v9 w9 => ∃ ta tb tc : Nat → Int32, v9 = some (.int (mI (fnd σ p a k))) ∧ w9 = [(hM, .inr (6, [.int (nI 0), .ref x1, .int (nI sz), .ref x3, .ref x4, .ref x5, .int (nI ac), .ref x7, .ref x8, .ref x9, .ref x10, .ref x11, .int (nI sp), .int (nI ou)])), (x9, .inl (eI E, 6, .inl ta)), (x10, .inl (eI E, 6, .inl tb)), (x11, .inl (eI E, 6, .inl tc)), (x3, .inl (eI E, 255, .inl g))]) := by
  have hwP := hW.P
  have hwA := hW.A
  have hwS := hW.S
  refine ct_of (by decide +kernel) (Nat.le_of_ble_eq_true rfl) (fun ω C RT => ?_)
  show ω [(hM, .inr (6, [.int (nI rf), .ref x1, .int (nI sz), .ref x3, .ref x4, .ref x5, .int (nI ac), .ref x7, .ref x8, .ref x9, .ref x10, .ref x11, .int (nI sp), .int (nI ou)])), (x9, .inl (eI E, 6, .inl t1)), (x10, .inl (eI E, 6, .inl t2)), (x11, .inl (eI E, 6, .inl t3)), (x3, .inl (eI E, 255, .inl g))] [(0, .ref hM), (1, .int (nI p)), (2, .int (nI a)), (3, .int (nI k))] [] 0
  refine r_aload_n C (i := 0) 0 dX6_find_0 rfl rfl ?_
  refine r_aload_n C (i := 0) 0 dX6_find_1 rfl rfl ?_
  refine r_get C 0 3 uX6 rfl rfl (by decide) w_5_64 rfl dX6_find_2 ?_
  refine r_iload_n C (i := 1) 1 dX6_find_5 rfl rfl ?_
  refine r_readS (rest := [.ref hM]) C (c_X6_isPart (r := x3) (g := g) (σ := σ) (i := p) (hR := hR) (hW := hW) (hi := (by omega))) lk_X6_isPart w_5_151 [4] dX6_find_6 rfl rfl rfl ⟨by decide, by decide⟩ (Nat.le_of_ble_eq_true rfl) (st' := [.int (bP (p < sP σ)), .ref hM]) rfl ?_
  refine r_if_eq C (y := 0) (c9 := ¬ (p < sP σ)) 23 dX6_find_9 (by decide) z_eqB (fun h9_1 => ?_) (fun h9_1 => ?_)
  · refine r_iconst C dX6_find_23 ki_1 ?_
    refine r_goto C 36 dX6_find_24 (by decide) ?_
    first | (exfalso; omega) | (exfalso; simp_all; done)
  · replace h9_1 : p < sP σ := Decidable.not_not.mp h9_1
    refine r_aload_n C (i := 0) 0 dX6_find_12 rfl rfl ?_
    refine r_get C 0 3 uX6 rfl rfl (by decide) w_5_64 rfl dX6_find_13 ?_
    refine r_iload_n C (i := 2) 2 dX6_find_16 rfl rfl ?_
    refine r_readS (rest := [.ref hM]) C (c_X6_isActor (r := x3) (g := g) (σ := σ) (i := a) (hR := hR) (hW := hW) (hi := (by omega))) lk_X6_isActor w_5_154 [4] dX6_find_17 rfl rfl rfl ⟨by decide, by decide⟩ (Nat.le_of_ble_eq_true rfl) (st' := [.int (bP (a < sA σ)), .ref hM]) rfl ?_
    refine r_if_ne C (y := 0) (c9 := a < sA σ) 27 dX6_find_20 (by decide) z_neB (fun h20_2 => ?_) (fun h20_2 => ?_)
    · refine r_iload_n C (i := 3) 3 dX6_find_27 rfl rfl ?_
      refine r_if_lt C (y := 0) (c9 := k < 0) 35 dX6_find_28 (by decide) (z_ltN (by omega)) (fun h28_3 => ?_) (fun h28_3 => ?_)
      · refine r_iconst C dX6_find_35 ki_2 ?_
        first | (exfalso; omega) | (exfalso; simp_all; done)
      · refine r_iconst C dX6_find_31 ki_0 ?_
        refine r_goto C 36 dX6_find_32 (by decide) ?_
        refine r_callV (rest := []) C (c_X6_refused (hM := hM) (rf := rf) (x1 := x1) (sz := sz) (x3 := x3) (x4 := x4) (x5 := x5) (ac := ac) (x7 := x7) (x8 := x8) (x9 := x9) (x10 := x10) (x11 := x11) (sp := sp) (ou := ou) (w := 0) (hw := (by omega))) lk_X6_refused w_5_116 [0] rfl dX6_find_36 rfl rfl rfl rfl ⟨by decide, by decide⟩ (Nat.le_of_ble_eq_true rfl) ?_
        rintro _ _ ⟨rfl, rfl⟩
        show ω [(hM, .inr (6, [.int (nI 0), .ref x1, .int (nI sz), .ref x3, .ref x4, .ref x5, .int (nI ac), .ref x7, .ref x8, .ref x9, .ref x10, .ref x11, .int (nI sp), .int (nI ou)])), (x9, .inl (eI E, 6, .inl t1)), (x10, .inl (eI E, 6, .inl t2)), (x11, .inl (eI E, 6, .inl t3)), (x3, .inl (eI E, 255, .inl g))] [(0, .ref hM), (1, .int (nI p)), (2, .int (nI a)), (3, .int (nI k))] [.int (bP (0 < 0))] 39
        refine r_if_eqT C (y := 0) 44 dX6_find_39 (by decide) (z_eqB.mpr (by decide)) ?_
        refine r_iload_n C (i := 3) 3 dX6_find_44 rfl rfl ?_
        refine r_istore C (lv' := [(4, .int (nI k)), (0, .ref hM), (1, .int (nI p)), (2, .int (nI a)), (3, .int (nI k))]) dX6_find_45 (by decide) rfl ?_
        refine r_iconst C dX6_find_47 ki_0 ?_
        refine r_istore C (lv' := [(5, .int (nI 0)), (4, .int (nI k)), (0, .ref hM), (1, .int (nI p)), (2, .int (nI a)), (3, .int (nI k))]) dX6_find_48 (by decide) rfl ?_
        have loop50_4 : ∀ (dd9 : Nat) (n : Nat) (left : Nat) (s1 : Nat → Int32) (s2 : Nat → Int32) (s3 : Nat → Int32), 20 - n < dd9 → (n ≤ 20) → (left + fdC σ p a n = k) → (∀ j, j < n → fdP σ p a k j = false) → ω [(hM, .inr (6, [.int (nI 0), .ref x1, .int (nI sz), .ref x3, .ref x4, .ref x5, .int (nI ac), .ref x7, .ref x8, .ref x9, .ref x10, .ref x11, .int (nI sp), .int (nI ou)])), (x9, .inl (eI E, 6, .inl s1)), (x10, .inl (eI E, 6, .inl s2)), (x11, .inl (eI E, 6, .inl s3)), (x3, .inl (eI E, 255, .inl g))] [(5, .int (nI n)), (4, .int (nI left)), (0, .ref hM), (1, .int (nI p)), (2, .int (nI a)), (3, .int (nI k))] [] 50 := by
          intro dd9
          induction dd9 with
          | zero => intro n left s1 s2 s3 hd; exact absurd hd (Nat.not_lt_zero _)
          | succ dd9 ih5 =>
            intro n left s1 s2 s3 hd hn hl hno
            refine r_iload C (i := 5) 0 dX6_find_50 rfl ?_
            refine r_bipush C dX6_find_52 kb_20 ?_
            refine r_icmp_ge C (c9 := 20 ≤ n) 85 dX6_find_54 (by decide) (c_leNN (by omega) (by omega)) (fun h54_6 => ?_) (fun h54_6 => ?_)
            · refine r_iconst C dX6_find_85 ki_m1 ?_
              exact RT.1 _ _ _ _ _ dX6_find_86 rfl rfl (⟨_, _, _, sv (congrArg mI (fnd_no (fun j hj => hno j (by omega))).symm), rfl⟩) rfl
            · refine r_aload_n C (i := 0) 2 dX6_find_57 rfl rfl ?_
              refine r_iload C (i := 5) 0 dX6_find_58 rfl ?_
              refine r_iload_n C (i := 1) 3 dX6_find_60 rfl rfl ?_
              refine r_iload_n C (i := 2) 4 dX6_find_61 rfl rfl ?_
              refine r_callV (rest := []) C (c_X6_isPlayed (hM := hM) (rf := 0) (x1 := x1) (sz := sz) (x3 := x3) (x4 := x4) (x5 := x5) (ac := ac) (x7 := x7) (x8 := x8) (x9 := x9) (x10 := x10) (x11 := x11) (sp := sp) (ou := ou) (t1 := s1) (t2 := s2) (t3 := s3) (g := g) (σ := σ) (n := n) (p := p) (a := a) (hR := hR) (hW := hW) (hn := (by omega)) (hp := (by omega)) (ha := (by omega))) lk_X6_isPlayed w_6_109 [0, 1, 2, 3, 4] rfl dX6_find_62 rfl rfl rfl rfl ⟨by decide, by decide⟩ (Nat.le_of_ble_eq_true rfl) ?_
              rintro _ _ ⟨ta_7, tb_8, tc_9, rfl, rfl⟩
              show ω [(hM, .inr (6, [.int (nI 0), .ref x1, .int (nI sz), .ref x3, .ref x4, .ref x5, .int (nI ac), .ref x7, .ref x8, .ref x9, .ref x10, .ref x11, .int (nI sp), .int (nI ou)])), (x9, .inl (eI E, 6, .inl ta_7)), (x10, .inl (eI E, 6, .inl tb_8)), (x11, .inl (eI E, 6, .inl tc_9)), (x3, .inl (eI E, 255, .inl g))] [(5, .int (nI n)), (4, .int (nI left)), (0, .ref hM), (1, .int (nI p)), (2, .int (nI a)), (3, .int (nI k))] [.int (bP (isPl σ p a n))] 65
              refine r_if_eq C (y := 0) (c9 := ¬ (isPl σ p a n)) 79 dX6_find_65 (by decide) z_eqB (fun h65_10 => ?_) (fun h65_10 => ?_)
              · refine r_iinc C (lv' := [(5, .int (nI (n + 1))), (4, .int (nI left)), (0, .ref hM), (1, .int (nI p)), (2, .int (nI a)), (3, .int (nI k))]) (v := nI (n + 1)) 0 dX6_find_79 rfl (v_inc _) (by decide) rfl ?_
                refine r_goto C 50 dX6_find_82 (by decide) ?_
                exact ih5 (n + 1) left ta_7 tb_8 tc_9 (by omega) (by omega) (by rw [fdC, if_neg h65_10]; omega) (lt_step hno (decide_eq_false (fun z => h65_10 z.1)))
              · replace h65_10 : isPl σ p a n := Decidable.not_not.mp h65_10
                refine r_iload C (i := 4) 1 dX6_find_68 rfl ?_
                refine r_if_ne C (y := 0) (c9 := left ≠ 0) 76 dX6_find_70 (by decide) (z_neN (by omega)) (fun h70_11 => ?_) (fun h70_11 => ?_)
                · refine r_iinc C (lv' := [(4, .int (mI left)), (5, .int (nI n)), (0, .ref hM), (1, .int (nI p)), (2, .int (nI a)), (3, .int (nI k))]) (v := mI left) 1 dX6_find_76 rfl (v_decM _) (by decide) rfl ?_
                  refine r_lo (lv' := [(4, .int (nI (left - 1))), (5, .int (nI n)), (0, .ref hM), (1, .int (nI p)), (2, .int (nI a)), (3, .int (nI k))]) (by rw [show left = left - 1 + 1 from by omega, mI_s, Nat.add_sub_cancel]) ?_
                  refine r_iinc C (lv' := [(5, .int (nI (n + 1))), (4, .int (nI (left - 1))), (0, .ref hM), (1, .int (nI p)), (2, .int (nI a)), (3, .int (nI k))]) (v := nI (n + 1)) 1 dX6_find_79 rfl (v_inc _) (by decide) rfl ?_
                  refine r_goto C 50 dX6_find_82 (by decide) ?_
                  exact ih5 (n + 1) (left - 1) ta_7 tb_8 tc_9 (by omega) (by omega) (by rw [fdC, if_pos h65_10]; omega) (lt_step hno (decide_eq_false (fun z => by have := z.2; omega)))
                · refine r_iload C (i := 5) 0 dX6_find_73 rfl ?_
                  exact RT.1 _ _ _ _ _ dX6_find_75 rfl rfl (⟨_, _, _, sv ((mI_s _).symm.trans (congrArg mI (fnd_yes (by omega) h65_10 (by omega) hno).symm)), rfl⟩) rfl
        exact loop50_4 _ 0 k t1 t2 t3 (Nat.lt_succ_self _) (by omega) (by rw [fdC]; rfl) (fun j hj => absurd hj (Nat.not_lt_zero j))
    · refine r_iconst C dX6_find_23 ki_1 ?_
      refine r_goto C 36 dX6_find_24 (by decide) ?_
      first | (exfalso; omega) | (exfalso; simp_all; done)
set_option maxRecDepth 100000 in
set_option maxHeartbeats 1000000 in
theorem c_X6_find__x1 {l : Launch} {E : Ev} {hM rf x1 sz x3 x4 x5 ac x7 x8 x9 x10 x11 sp ou : Nat} {g : Nat → Int32} {σ : Sg} (hR : RepM σ g) (hW : Wf σ) {p a k : Int32} (hx : ¬ (vI p (sP σ) ∧ vI a (sA σ))) : Ct l E yX6_find cX6_find 6 (some FieldType.int) 5 122 [.ref hM, .int p, .int a, .int k] [(hM, .inr (6, [.int (nI rf), .ref x1, .int (nI sz), .ref x3, .ref x4, .ref x5, .int (nI ac), .ref x7, .ref x8, .ref x9, .ref x10, .ref x11, .int (nI sp), .int (nI ou)])), (x3, .inl (eI E, 255, .inl g))] (fun v9 w9 => v9 = some (.int (nI 0)) ∧ w9 = [(hM, .inr (6, [.int (nI 1), .ref x1, .int (nI sz), .ref x3, .ref x4, .ref x5, .int (nI ac), .ref x7, .ref x8, .ref x9, .ref x10, .ref x11, .int (nI sp), .int (nI ou)])), (x3, .inl (eI E, 255, .inl g))]) := by
  have hwP := hW.P
  have hwA := hW.A
  have hwS := hW.S
  refine ct_of (by decide +kernel) (Nat.le_of_ble_eq_true rfl) (fun ω C RT => ?_)
  show ω [(hM, .inr (6, [.int (nI rf), .ref x1, .int (nI sz), .ref x3, .ref x4, .ref x5, .int (nI ac), .ref x7, .ref x8, .ref x9, .ref x10, .ref x11, .int (nI sp), .int (nI ou)])), (x3, .inl (eI E, 255, .inl g))] [(0, .ref hM), (1, .int p), (2, .int a), (3, .int k)] [] 0
  refine r_aload_n C (i := 0) 0 dX6_find_0 rfl rfl ?_
  refine r_aload_n C (i := 0) 0 dX6_find_1 rfl rfl ?_
  refine r_get C 0 3 uX6 rfl rfl (by decide) w_5_64 rfl dX6_find_2 ?_
  refine r_iload_n C (i := 1) 1 dX6_find_5 rfl rfl ?_
  refine r_readS (rest := [.ref hM]) C (c_X6_isPart__r (r := x3) (g := g) (σ := σ) (x := p) (hR := hR) (hW := hW)) lk_X6_isPart w_5_151 [1] dX6_find_6 rfl rfl rfl ⟨by decide, by decide⟩ (Nat.le_of_ble_eq_true rfl) (st' := [.int (bP (vI p (sP σ))), .ref hM]) rfl ?_
  refine r_if_eq C (y := 0) (c9 := ¬ (vI p (sP σ))) 23 dX6_find_9 (by decide) z_eqB (fun h9_1 => ?_) (fun h9_1 => ?_)
  · refine r_iconst C dX6_find_23 ki_1 ?_
    refine r_goto C 36 dX6_find_24 (by decide) ?_
    refine r_callV (rest := []) C (c_X6_refused (hM := hM) (rf := rf) (x1 := x1) (sz := sz) (x3 := x3) (x4 := x4) (x5 := x5) (ac := ac) (x7 := x7) (x8 := x8) (x9 := x9) (x10 := x10) (x11 := x11) (sp := sp) (ou := ou) (w := 1) (hw := (by omega))) lk_X6_refused w_5_116 [0] rfl dX6_find_36 rfl rfl rfl rfl ⟨by decide, by decide⟩ (Nat.le_of_ble_eq_true rfl) ?_
    rintro _ _ ⟨rfl, rfl⟩
    show ω [(hM, .inr (6, [.int (nI 1), .ref x1, .int (nI sz), .ref x3, .ref x4, .ref x5, .int (nI ac), .ref x7, .ref x8, .ref x9, .ref x10, .ref x11, .int (nI sp), .int (nI ou)])), (x3, .inl (eI E, 255, .inl g))] [(0, .ref hM), (1, .int p), (2, .int a), (3, .int k)] [.int (bP (0 < 1))] 39
    refine r_if_eqF C (y := 0) (tgt := 44) dX6_find_39 (by decide) (fun z => ((by decide) : ¬ (¬ (0 < 1))) (z_eqB.mp z)) ?_
    refine r_iconst C dX6_find_42 ki_0 ?_
    exact RT.1 _ _ _ _ _ dX6_find_43 rfl rfl (⟨rfl, rfl⟩) rfl
  · replace h9_1 : vI p (sP σ) := Decidable.not_not.mp h9_1
    refine r_aload_n C (i := 0) 0 dX6_find_12 rfl rfl ?_
    refine r_get C 0 3 uX6 rfl rfl (by decide) w_5_64 rfl dX6_find_13 ?_
    refine r_iload_n C (i := 2) 2 dX6_find_16 rfl rfl ?_
    refine r_readS (rest := [.ref hM]) C (c_X6_isActor__r (r := x3) (g := g) (σ := σ) (x := a) (hR := hR) (hW := hW)) lk_X6_isActor w_5_154 [1] dX6_find_17 rfl rfl rfl ⟨by decide, by decide⟩ (Nat.le_of_ble_eq_true rfl) (st' := [.int (bP (vI a (sA σ))), .ref hM]) rfl ?_
    refine r_if_ne C (y := 0) (c9 := vI a (sA σ)) 27 dX6_find_20 (by decide) z_neB (fun h20_2 => ?_) (fun h20_2 => ?_)
    · refine r_iload_n C (i := 3) 3 dX6_find_27 rfl rfl ?_
      refine r_if_lt C (y := 0) (c9 := k < 0) 35 dX6_find_28 (by decide) Iff.rfl (fun h28_3 => ?_) (fun h28_3 => ?_)
      · refine r_iconst C dX6_find_35 ki_2 ?_
        first | (exfalso; omega) | (exfalso; simp_all; done)
      · refine r_iconst C dX6_find_31 ki_0 ?_
        refine r_goto C 36 dX6_find_32 (by decide) ?_
        first | (exfalso; omega) | (exfalso; simp_all; done)
    · refine r_iconst C dX6_find_23 ki_1 ?_
      refine r_goto C 36 dX6_find_24 (by decide) ?_
      refine r_callV (rest := []) C (c_X6_refused (hM := hM) (rf := rf) (x1 := x1) (sz := sz) (x3 := x3) (x4 := x4) (x5 := x5) (ac := ac) (x7 := x7) (x8 := x8) (x9 := x9) (x10 := x10) (x11 := x11) (sp := sp) (ou := ou) (w := 1) (hw := (by omega))) lk_X6_refused w_5_116 [0] rfl dX6_find_36 rfl rfl rfl rfl ⟨by decide, by decide⟩ (Nat.le_of_ble_eq_true rfl) ?_
      rintro _ _ ⟨rfl, rfl⟩
      show ω [(hM, .inr (6, [.int (nI 1), .ref x1, .int (nI sz), .ref x3, .ref x4, .ref x5, .int (nI ac), .ref x7, .ref x8, .ref x9, .ref x10, .ref x11, .int (nI sp), .int (nI ou)])), (x3, .inl (eI E, 255, .inl g))] [(0, .ref hM), (1, .int p), (2, .int a), (3, .int k)] [.int (bP (0 < 1))] 39
      refine r_if_eqF C (y := 0) (tgt := 44) dX6_find_39 (by decide) (fun z => ((by decide) : ¬ (¬ (0 < 1))) (z_eqB.mp z)) ?_
      refine r_iconst C dX6_find_42 ki_0 ?_
      exact RT.1 _ _ _ _ _ dX6_find_43 rfl rfl (⟨rfl, rfl⟩) rfl
set_option maxRecDepth 100000 in
set_option maxHeartbeats 1000000 in
theorem c_X6_find__x2 {l : Launch} {E : Ev} {hM rf x1 sz x3 x4 x5 ac x7 x8 x9 x10 x11 sp ou : Nat} {g : Nat → Int32} {σ : Sg} (hR : RepM σ g) (hW : Wf σ) {p a : Nat} {k : Int32} (hp : p < sP σ) (ha : a < sA σ) (hx : k < 0) : Ct l E yX6_find cX6_find 6 (some FieldType.int) 5 122 [.ref hM, .int (nI p), .int (nI a), .int k] [(hM, .inr (6, [.int (nI rf), .ref x1, .int (nI sz), .ref x3, .ref x4, .ref x5, .int (nI ac), .ref x7, .ref x8, .ref x9, .ref x10, .ref x11, .int (nI sp), .int (nI ou)])), (x3, .inl (eI E, 255, .inl g))] (fun v9 w9 => v9 = some (.int (nI 0)) ∧ w9 = [(hM, .inr (6, [.int (nI 2), .ref x1, .int (nI sz), .ref x3, .ref x4, .ref x5, .int (nI ac), .ref x7, .ref x8, .ref x9, .ref x10, .ref x11, .int (nI sp), .int (nI ou)])), (x3, .inl (eI E, 255, .inl g))]) := by
  have hwP := hW.P
  have hwA := hW.A
  have hwS := hW.S
  refine ct_of (by decide +kernel) (Nat.le_of_ble_eq_true rfl) (fun ω C RT => ?_)
  show ω [(hM, .inr (6, [.int (nI rf), .ref x1, .int (nI sz), .ref x3, .ref x4, .ref x5, .int (nI ac), .ref x7, .ref x8, .ref x9, .ref x10, .ref x11, .int (nI sp), .int (nI ou)])), (x3, .inl (eI E, 255, .inl g))] [(0, .ref hM), (1, .int (nI p)), (2, .int (nI a)), (3, .int k)] [] 0
  refine r_aload_n C (i := 0) 0 dX6_find_0 rfl rfl ?_
  refine r_aload_n C (i := 0) 0 dX6_find_1 rfl rfl ?_
  refine r_get C 0 3 uX6 rfl rfl (by decide) w_5_64 rfl dX6_find_2 ?_
  refine r_iload_n C (i := 1) 1 dX6_find_5 rfl rfl ?_
  refine r_readS (rest := [.ref hM]) C (c_X6_isPart (r := x3) (g := g) (σ := σ) (i := p) (hR := hR) (hW := hW) (hi := (by omega))) lk_X6_isPart w_5_151 [1] dX6_find_6 rfl rfl rfl ⟨by decide, by decide⟩ (Nat.le_of_ble_eq_true rfl) (st' := [.int (bP (p < sP σ)), .ref hM]) rfl ?_
  refine r_if_eq C (y := 0) (c9 := ¬ (p < sP σ)) 23 dX6_find_9 (by decide) z_eqB (fun h9_1 => ?_) (fun h9_1 => ?_)
  · refine r_iconst C dX6_find_23 ki_1 ?_
    refine r_goto C 36 dX6_find_24 (by decide) ?_
    first | (exfalso; omega) | (exfalso; simp_all; done)
  · replace h9_1 : p < sP σ := Decidable.not_not.mp h9_1
    refine r_aload_n C (i := 0) 0 dX6_find_12 rfl rfl ?_
    refine r_get C 0 3 uX6 rfl rfl (by decide) w_5_64 rfl dX6_find_13 ?_
    refine r_iload_n C (i := 2) 2 dX6_find_16 rfl rfl ?_
    refine r_readS (rest := [.ref hM]) C (c_X6_isActor (r := x3) (g := g) (σ := σ) (i := a) (hR := hR) (hW := hW) (hi := (by omega))) lk_X6_isActor w_5_154 [1] dX6_find_17 rfl rfl rfl ⟨by decide, by decide⟩ (Nat.le_of_ble_eq_true rfl) (st' := [.int (bP (a < sA σ)), .ref hM]) rfl ?_
    refine r_if_ne C (y := 0) (c9 := a < sA σ) 27 dX6_find_20 (by decide) z_neB (fun h20_2 => ?_) (fun h20_2 => ?_)
    · refine r_iload_n C (i := 3) 3 dX6_find_27 rfl rfl ?_
      refine r_if_lt C (y := 0) (c9 := k < 0) 35 dX6_find_28 (by decide) Iff.rfl (fun h28_3 => ?_) (fun h28_3 => ?_)
      · refine r_iconst C dX6_find_35 ki_2 ?_
        refine r_callV (rest := []) C (c_X6_refused (hM := hM) (rf := rf) (x1 := x1) (sz := sz) (x3 := x3) (x4 := x4) (x5 := x5) (ac := ac) (x7 := x7) (x8 := x8) (x9 := x9) (x10 := x10) (x11 := x11) (sp := sp) (ou := ou) (w := 2) (hw := (by omega))) lk_X6_refused w_5_116 [0] rfl dX6_find_36 rfl rfl rfl rfl ⟨by decide, by decide⟩ (Nat.le_of_ble_eq_true rfl) ?_
        rintro _ _ ⟨rfl, rfl⟩
        show ω [(hM, .inr (6, [.int (nI 2), .ref x1, .int (nI sz), .ref x3, .ref x4, .ref x5, .int (nI ac), .ref x7, .ref x8, .ref x9, .ref x10, .ref x11, .int (nI sp), .int (nI ou)])), (x3, .inl (eI E, 255, .inl g))] [(0, .ref hM), (1, .int (nI p)), (2, .int (nI a)), (3, .int k)] [.int (bP (0 < 2))] 39
        refine r_if_eqF C (y := 0) (tgt := 44) dX6_find_39 (by decide) (fun z => ((by decide) : ¬ (¬ (0 < 2))) (z_eqB.mp z)) ?_
        refine r_iconst C dX6_find_42 ki_0 ?_
        exact RT.1 _ _ _ _ _ dX6_find_43 rfl rfl (⟨rfl, rfl⟩) rfl
      · refine r_iconst C dX6_find_31 ki_0 ?_
        refine r_goto C 36 dX6_find_32 (by decide) ?_
        first | (exfalso; omega) | (exfalso; simp_all; done)
    · refine r_iconst C dX6_find_23 ki_1 ?_
      refine r_goto C 36 dX6_find_24 (by decide) ?_
      first | (exfalso; omega) | (exfalso; simp_all; done)
set_option maxRecDepth 100000 in
set_option maxHeartbeats 1000000 in
theorem c_X6_together {l : Launch} {E : Ev} {hM rf x1 sz x3 x4 x5 ac x7 x8 x9 x10 x11 sp ou : Nat} {t1 t2 t3 : Nat → Int32} {g : Nat → Int32} {σ : Sg} (hR : RepM σ g) (hW : Wf σ) {a b : Nat} (ha : a < sA σ) (hb : b < sA σ) : Ct l E yX6_together cX6_together 5 (some FieldType.int) 5 123 [.ref hM, .int (nI a), .int (nI b)] [(hM, .inr (6, [.int (nI rf), .ref x1, .int (nI sz), .ref x3, .ref x4, .ref x5, .int (nI ac), .ref x7, .ref x8, .ref x9, .ref x10, .ref x11, .int (nI sp), .int (nI ou)])), (x9, .inl (eI E, 6, .inl t1)), (x10, .inl (eI E, 6, .inl t2)), (x11, .inl (eI E, 6, .inl t3)), (x3, .inl (eI E, 255, .inl g))] (fun v9 w9 => ∃ ta tb tc : Nat → Int32, v9 = some (.int (nI (tgN σ a b 20))) ∧ w9 = [(hM, .inr (6, [.int (nI 0), .ref x1, .int (nI sz), .ref x3, .ref x4, .ref x5, .int (nI ac), .ref x7, .ref x8, .ref x9, .ref x10, .ref x11, .int (nI sp), .int (nI ou)])), (x9, .inl (eI E, 6, .inl ta)), (x10, .inl (eI E, 6, .inl tb)), (x11, .inl (eI E, 6, .inl tc)), (x3, .inl (eI E, 255, .inl g))]) := by
  have hwP := hW.P
  have hwA := hW.A
  have hwS := hW.S
  refine ct_of (by decide +kernel) (Nat.le_of_ble_eq_true rfl) (fun ω C RT => ?_)
  show ω [(hM, .inr (6, [.int (nI rf), .ref x1, .int (nI sz), .ref x3, .ref x4, .ref x5, .int (nI ac), .ref x7, .ref x8, .ref x9, .ref x10, .ref x11, .int (nI sp), .int (nI ou)])), (x9, .inl (eI E, 6, .inl t1)), (x10, .inl (eI E, 6, .inl t2)), (x11, .inl (eI E, 6, .inl t3)), (x3, .inl (eI E, 255, .inl g))] [(0, .ref hM), (1, .int (nI a)), (2, .int (nI b))] [] 0
  refine r_aload_n C (i := 0) 0 dX6_together_0 rfl rfl ?_
  refine r_aload_n C (i := 0) 0 dX6_together_1 rfl rfl ?_
  refine r_get C 0 3 uX6 rfl rfl (by decide) w_5_64 rfl dX6_together_2 ?_
  refine r_iload_n C (i := 1) 1 dX6_together_5 rfl rfl ?_
  refine r_readS (rest := [.ref hM]) C (c_X6_isActor (r := x3) (g := g) (σ := σ) (i := a) (hR := hR) (hW := hW) (hi := (by omega))) lk_X6_isActor w_5_154 [4] dX6_together_6 rfl rfl rfl ⟨by decide, by decide⟩ (Nat.le_of_ble_eq_true rfl) (st' := [.int (bP (a < sA σ)), .ref hM]) rfl ?_
  refine r_if_eq C (y := 0) (c9 := ¬ (a < sA σ)) 27 dX6_together_9 (by decide) z_eqB (fun h9_1 => ?_) (fun h9_1 => ?_)
  · refine r_iconst C dX6_together_27 ki_1 ?_
    first | (exfalso; omega) | (exfalso; simp_all; done)
  · replace h9_1 : a < sA σ := Decidable.not_not.mp h9_1
    refine r_aload_n C (i := 0) 0 dX6_together_12 rfl rfl ?_
    refine r_get C 0 3 uX6 rfl rfl (by decide) w_5_64 rfl dX6_together_13 ?_
    refine r_iload_n C (i := 2) 2 dX6_together_16 rfl rfl ?_
    refine r_readS (rest := [.ref hM]) C (c_X6_isActor (r := x3) (g := g) (σ := σ) (i := b) (hR := hR) (hW := hW) (hi := (by omega))) lk_X6_isActor w_5_154 [4] dX6_together_17 rfl rfl rfl ⟨by decide, by decide⟩ (Nat.le_of_ble_eq_true rfl) (st' := [.int (bP (b < sA σ)), .ref hM]) rfl ?_
    refine r_if_eq C (y := 0) (c9 := ¬ (b < sA σ)) 27 dX6_together_20 (by decide) z_eqB (fun h20_2 => ?_) (fun h20_2 => ?_)
    · refine r_iconst C dX6_together_27 ki_1 ?_
      first | (exfalso; omega) | (exfalso; simp_all; done)
    · replace h20_2 : b < sA σ := Decidable.not_not.mp h20_2
      refine r_iconst C dX6_together_23 ki_0 ?_
      refine r_goto C 28 dX6_together_24 (by decide) ?_
      refine r_callV (rest := []) C (c_X6_refused (hM := hM) (rf := rf) (x1 := x1) (sz := sz) (x3 := x3) (x4 := x4) (x5 := x5) (ac := ac) (x7 := x7) (x8 := x8) (x9 := x9) (x10 := x10) (x11 := x11) (sp := sp) (ou := ou) (w := 0) (hw := (by omega))) lk_X6_refused w_5_116 [0] rfl dX6_together_28 rfl rfl rfl rfl ⟨by decide, by decide⟩ (Nat.le_of_ble_eq_true rfl) ?_
      rintro _ _ ⟨rfl, rfl⟩
      show ω [(hM, .inr (6, [.int (nI 0), .ref x1, .int (nI sz), .ref x3, .ref x4, .ref x5, .int (nI ac), .ref x7, .ref x8, .ref x9, .ref x10, .ref x11, .int (nI sp), .int (nI ou)])), (x9, .inl (eI E, 6, .inl t1)), (x10, .inl (eI E, 6, .inl t2)), (x11, .inl (eI E, 6, .inl t3)), (x3, .inl (eI E, 255, .inl g))] [(0, .ref hM), (1, .int (nI a)), (2, .int (nI b))] [.int (bP (0 < 0))] 31
      refine r_if_eqT C (y := 0) 36 dX6_together_31 (by decide) (z_eqB.mpr (by decide)) ?_
      refine r_iconst C dX6_together_36 ki_0 ?_
      refine r_istore_n C (lv' := [(3, .int (nI 0)), (0, .ref hM), (1, .int (nI a)), (2, .int (nI b))]) dX6_together_37 rfl (by decide) rfl ?_
      refine r_iconst C dX6_together_38 ki_0 ?_
      refine r_istore C (lv' := [(4, .int (nI 0)), (3, .int (nI 0)), (0, .ref hM), (1, .int (nI a)), (2, .int (nI b))]) dX6_together_39 (by decide) rfl ?_
      have loop41_3 : ∀ (dd9 : Nat) (k : Nat) (m : Nat) (s1 : Nat → Int32) (s2 : Nat → Int32) (s3 : Nat → Int32), 20 - k < dd9 → (k ≤ 20) → (m = tgN σ a b k) → ω [(hM, .inr (6, [.int (nI 0), .ref x1, .int (nI sz), .ref x3, .ref x4, .ref x5, .int (nI ac), .ref x7, .ref x8, .ref x9, .ref x10, .ref x11, .int (nI sp), .int (nI ou)])), (x9, .inl (eI E, 6, .inl s1)), (x10, .inl (eI E, 6, .inl s2)), (x11, .inl (eI E, 6, .inl s3)), (x3, .inl (eI E, 255, .inl g))] [(4, .int (nI k)), (3, .int (nI m)), (0, .ref hM), (1, .int (nI a)), (2, .int (nI b))] [] 41 := by
        intro dd9
        induction dd9 with
        | zero => intro k m s1 s2 s3 hd; exact absurd hd (Nat.not_lt_zero _)
        | succ dd9 ih4 =>
          intro k m s1 s2 s3 hd hk hm
          have hml := tgN_le σ a b k
          have hyl := ply_le σ k a
          have hyl2 := ply_le σ k b
          refine r_iload C (i := 4) 0 dX6_together_41 rfl ?_
          refine r_bipush C dX6_together_43 kb_20 ?_
          refine r_icmp_ge C (c9 := 20 ≤ k) 92 dX6_together_45 (by decide) (c_leNN (by omega) (by omega)) (fun h45_5 => ?_) (fun h45_5 => ?_)
          · refine r_iload_n C (i := 3) 1 dX6_together_92 rfl rfl ?_
            exact RT.1 _ _ _ _ _ dX6_together_93 rfl rfl (⟨_, _, _, sv (congrArg nI (by rw [hm, (by omega : k = 20)])), rfl⟩) rfl
          · refine r_iload_n C (i := 3) 1 dX6_together_48 rfl rfl ?_
            refine r_aload_n C (i := 0) 2 dX6_together_49 rfl rfl ?_
            refine r_aload_n C (i := 0) 2 dX6_together_50 rfl rfl ?_
            refine r_get C 0 3 uX6 rfl rfl (by decide) w_5_64 rfl dX6_together_51 ?_
            refine r_iload C (i := 4) 0 dX6_together_54 rfl ?_
            refine r_iload_n C (i := 1) 3 dX6_together_56 rfl rfl ?_
            refine r_callV (rest := [.int (nI m)]) C (c_X6_plays (hM := hM) (rf := 0) (x1 := x1) (sz := sz) (x3 := x3) (x4 := x4) (x5 := x5) (ac := ac) (x7 := x7) (x8 := x8) (x9 := x9) (x10 := x10) (x11 := x11) (sp := sp) (ou := ou) (t1 := s1) (t2 := s2) (t3 := s3) (r := x3) (g := g) (σ := σ) (n := k) (a := a) (hR := hR) (hW := hW) (hn := (by omega)) (ha := (by omega))) lk_X6_plays w_6_31 [0, 1, 2, 3, 4] rfl dX6_together_57 rfl rfl rfl rfl ⟨by decide, by decide⟩ (Nat.le_of_ble_eq_true rfl) ?_
            rintro _ _ ⟨ta_6, tb_7, tc_8, rfl, rfl⟩
            show ω [(hM, .inr (6, [.int (nI 0), .ref x1, .int (nI sz), .ref x3, .ref x4, .ref x5, .int (nI ac), .ref x7, .ref x8, .ref x9, .ref x10, .ref x11, .int (nI sp), .int (nI ou)])), (x9, .inl (eI E, 6, .inl ta_6)), (x10, .inl (eI E, 6, .inl tb_7)), (x11, .inl (eI E, 6, .inl tc_8)), (x3, .inl (eI E, 255, .inl g))] [(4, .int (nI k)), (3, .int (nI m)), (0, .ref hM), (1, .int (nI a)), (2, .int (nI b))] [.int (mI (ply σ k a)), .int (nI m)] 60
            refine r_iconst C dX6_together_60 ki_m1 ?_
            refine r_icmp_eq C (c9 := ply σ k a = 0) 83 dX6_together_61 (by decide) (c_eqMM (by omega) (by omega)) (fun h61_9 => ?_) (fun h61_9 => ?_)
            · refine r_iconst C dX6_together_83 ki_0 ?_
              refine r_iadd (v := nI (m + 0)) C dX6_together_84 (nI_add _ _) ?_
              refine r_istore_n C (lv' := [(3, .int (nI (m + 0))), (4, .int (nI k)), (0, .ref hM), (1, .int (nI a)), (2, .int (nI b))]) dX6_together_85 rfl (by decide) rfl ?_
              refine r_iinc C (lv' := [(4, .int (nI (k + 1))), (3, .int (nI (m + 0))), (0, .ref hM), (1, .int (nI a)), (2, .int (nI b))]) (v := nI (k + 1)) 1 dX6_together_86 rfl (v_inc _) (by decide) rfl ?_
              refine r_goto C 41 dX6_together_89 (by decide) ?_
              exact ih4 (k + 1) (m + 0) ta_6 tb_7 tc_8 (by omega) (by omega) (by rw [tgN, hm, if_neg (by omega)])
            · refine r_aload_n C (i := 0) 2 dX6_together_64 rfl rfl ?_
              refine r_aload_n C (i := 0) 2 dX6_together_65 rfl rfl ?_
              refine r_get C 0 3 uX6 rfl rfl (by decide) w_5_64 rfl dX6_together_66 ?_
              refine r_iload C (i := 4) 0 dX6_together_69 rfl ?_
              refine r_iload_n C (i := 2) 4 dX6_together_71 rfl rfl ?_
              refine r_callV (rest := [.int (nI m)]) C (c_X6_plays (hM := hM) (rf := 0) (x1 := x1) (sz := sz) (x3 := x3) (x4 := x4) (x5 := x5) (ac := ac) (x7 := x7) (x8 := x8) (x9 := x9) (x10 := x10) (x11 := x11) (sp := sp) (ou := ou) (t1 := ta_6) (t2 := tb_7) (t3 := tc_8) (r := x3) (g := g) (σ := σ) (n := k) (a := b) (hR := hR) (hW := hW) (hn := (by omega)) (ha := (by omega))) lk_X6_plays w_6_31 [0, 1, 2, 3, 4] rfl dX6_together_72 rfl rfl rfl rfl ⟨by decide, by decide⟩ (Nat.le_of_ble_eq_true rfl) ?_
              rintro _ _ ⟨ta_10, tb_11, tc_12, rfl, rfl⟩
              show ω [(hM, .inr (6, [.int (nI 0), .ref x1, .int (nI sz), .ref x3, .ref x4, .ref x5, .int (nI ac), .ref x7, .ref x8, .ref x9, .ref x10, .ref x11, .int (nI sp), .int (nI ou)])), (x9, .inl (eI E, 6, .inl ta_10)), (x10, .inl (eI E, 6, .inl tb_11)), (x11, .inl (eI E, 6, .inl tc_12)), (x3, .inl (eI E, 255, .inl g))] [(4, .int (nI k)), (3, .int (nI m)), (0, .ref hM), (1, .int (nI a)), (2, .int (nI b))] [.int (mI (ply σ k b)), .int (nI m)] 75
              refine r_iconst C dX6_together_75 ki_m1 ?_
              refine r_icmp_eq C (c9 := ply σ k b = 0) 83 dX6_together_76 (by decide) (c_eqMM (by omega) (by omega)) (fun h76_13 => ?_) (fun h76_13 => ?_)
              · refine r_iconst C dX6_together_83 ki_0 ?_
                refine r_iadd (v := nI (m + 0)) C dX6_together_84 (nI_add _ _) ?_
                refine r_istore_n C (lv' := [(3, .int (nI (m + 0))), (4, .int (nI k)), (0, .ref hM), (1, .int (nI a)), (2, .int (nI b))]) dX6_together_85 rfl (by decide) rfl ?_
                refine r_iinc C (lv' := [(4, .int (nI (k + 1))), (3, .int (nI (m + 0))), (0, .ref hM), (1, .int (nI a)), (2, .int (nI b))]) (v := nI (k + 1)) 1 dX6_together_86 rfl (v_inc _) (by decide) rfl ?_
                refine r_goto C 41 dX6_together_89 (by decide) ?_
                exact ih4 (k + 1) (m + 0) ta_10 tb_11 tc_12 (by omega) (by omega) (by rw [tgN, hm, if_neg (by omega)])
              · refine r_iconst C dX6_together_79 ki_1 ?_
                refine r_goto C 84 dX6_together_80 (by decide) ?_
                refine r_iadd (v := nI (m + 1)) C dX6_together_84 (nI_add _ _) ?_
                refine r_istore_n C (lv' := [(3, .int (nI (m + 1))), (4, .int (nI k)), (0, .ref hM), (1, .int (nI a)), (2, .int (nI b))]) dX6_together_85 rfl (by decide) rfl ?_
                refine r_iinc C (lv' := [(4, .int (nI (k + 1))), (3, .int (nI (m + 1))), (0, .ref hM), (1, .int (nI a)), (2, .int (nI b))]) (v := nI (k + 1)) 1 dX6_together_86 rfl (v_inc _) (by decide) rfl ?_
                refine r_goto C 41 dX6_together_89 (by decide) ?_
                exact ih4 (k + 1) (m + 1) ta_10 tb_11 tc_12 (by omega) (by omega) (by rw [tgN, hm, if_pos (by omega)])
      exact loop41_3 _ 0 0 t1 t2 t3 (Nat.lt_succ_self _) (by omega) rfl
set_option maxRecDepth 100000 in
set_option maxHeartbeats 1000000 in
theorem c_X6_together__x1 {l : Launch} {E : Ev} {hM rf x1 sz x3 x4 x5 ac x7 x8 x9 x10 x11 sp ou : Nat} {g : Nat → Int32} {σ : Sg} (hR : RepM σ g) (hW : Wf σ) {a b : Int32} (hx : ¬ (vI a (sA σ) ∧ vI b (sA σ))) : Ct l E yX6_together cX6_together 5 (some FieldType.int) 5 123 [.ref hM, .int a, .int b] [(hM, .inr (6, [.int (nI rf), .ref x1, .int (nI sz), .ref x3, .ref x4, .ref x5, .int (nI ac), .ref x7, .ref x8, .ref x9, .ref x10, .ref x11, .int (nI sp), .int (nI ou)])), (x3, .inl (eI E, 255, .inl g))] (fun v9 w9 => v9 = some (.int (nI 0)) ∧ w9 = [(hM, .inr (6, [.int (nI 1), .ref x1, .int (nI sz), .ref x3, .ref x4, .ref x5, .int (nI ac), .ref x7, .ref x8, .ref x9, .ref x10, .ref x11, .int (nI sp), .int (nI ou)])), (x3, .inl (eI E, 255, .inl g))]) := by
  have hwP := hW.P
  have hwA := hW.A
  have hwS := hW.S
  refine ct_of (by decide +kernel) (Nat.le_of_ble_eq_true rfl) (fun ω C RT => ?_)
  show ω [(hM, .inr (6, [.int (nI rf), .ref x1, .int (nI sz), .ref x3, .ref x4, .ref x5, .int (nI ac), .ref x7, .ref x8, .ref x9, .ref x10, .ref x11, .int (nI sp), .int (nI ou)])), (x3, .inl (eI E, 255, .inl g))] [(0, .ref hM), (1, .int a), (2, .int b)] [] 0
  refine r_aload_n C (i := 0) 0 dX6_together_0 rfl rfl ?_
  refine r_aload_n C (i := 0) 0 dX6_together_1 rfl rfl ?_
  refine r_get C 0 3 uX6 rfl rfl (by decide) w_5_64 rfl dX6_together_2 ?_
  refine r_iload_n C (i := 1) 1 dX6_together_5 rfl rfl ?_
  refine r_readS (rest := [.ref hM]) C (c_X6_isActor__r (r := x3) (g := g) (σ := σ) (x := a) (hR := hR) (hW := hW)) lk_X6_isActor w_5_154 [1] dX6_together_6 rfl rfl rfl ⟨by decide, by decide⟩ (Nat.le_of_ble_eq_true rfl) (st' := [.int (bP (vI a (sA σ))), .ref hM]) rfl ?_
  refine r_if_eq C (y := 0) (c9 := ¬ (vI a (sA σ))) 27 dX6_together_9 (by decide) z_eqB (fun h9_1 => ?_) (fun h9_1 => ?_)
  · refine r_iconst C dX6_together_27 ki_1 ?_
    refine r_callV (rest := []) C (c_X6_refused (hM := hM) (rf := rf) (x1 := x1) (sz := sz) (x3 := x3) (x4 := x4) (x5 := x5) (ac := ac) (x7 := x7) (x8 := x8) (x9 := x9) (x10 := x10) (x11 := x11) (sp := sp) (ou := ou) (w := 1) (hw := (by omega))) lk_X6_refused w_5_116 [0] rfl dX6_together_28 rfl rfl rfl rfl ⟨by decide, by decide⟩ (Nat.le_of_ble_eq_true rfl) ?_
    rintro _ _ ⟨rfl, rfl⟩
    show ω [(hM, .inr (6, [.int (nI 1), .ref x1, .int (nI sz), .ref x3, .ref x4, .ref x5, .int (nI ac), .ref x7, .ref x8, .ref x9, .ref x10, .ref x11, .int (nI sp), .int (nI ou)])), (x3, .inl (eI E, 255, .inl g))] [(0, .ref hM), (1, .int a), (2, .int b)] [.int (bP (0 < 1))] 31
    refine r_if_eqF C (y := 0) (tgt := 36) dX6_together_31 (by decide) (fun z => ((by decide) : ¬ (¬ (0 < 1))) (z_eqB.mp z)) ?_
    refine r_iconst C dX6_together_34 ki_0 ?_
    exact RT.1 _ _ _ _ _ dX6_together_35 rfl rfl (⟨rfl, rfl⟩) rfl
  · replace h9_1 : vI a (sA σ) := Decidable.not_not.mp h9_1
    refine r_aload_n C (i := 0) 0 dX6_together_12 rfl rfl ?_
    refine r_get C 0 3 uX6 rfl rfl (by decide) w_5_64 rfl dX6_together_13 ?_
    refine r_iload_n C (i := 2) 2 dX6_together_16 rfl rfl ?_
    refine r_readS (rest := [.ref hM]) C (c_X6_isActor__r (r := x3) (g := g) (σ := σ) (x := b) (hR := hR) (hW := hW)) lk_X6_isActor w_5_154 [1] dX6_together_17 rfl rfl rfl ⟨by decide, by decide⟩ (Nat.le_of_ble_eq_true rfl) (st' := [.int (bP (vI b (sA σ))), .ref hM]) rfl ?_
    refine r_if_eq C (y := 0) (c9 := ¬ (vI b (sA σ))) 27 dX6_together_20 (by decide) z_eqB (fun h20_2 => ?_) (fun h20_2 => ?_)
    · refine r_iconst C dX6_together_27 ki_1 ?_
      refine r_callV (rest := []) C (c_X6_refused (hM := hM) (rf := rf) (x1 := x1) (sz := sz) (x3 := x3) (x4 := x4) (x5 := x5) (ac := ac) (x7 := x7) (x8 := x8) (x9 := x9) (x10 := x10) (x11 := x11) (sp := sp) (ou := ou) (w := 1) (hw := (by omega))) lk_X6_refused w_5_116 [0] rfl dX6_together_28 rfl rfl rfl rfl ⟨by decide, by decide⟩ (Nat.le_of_ble_eq_true rfl) ?_
      rintro _ _ ⟨rfl, rfl⟩
      show ω [(hM, .inr (6, [.int (nI 1), .ref x1, .int (nI sz), .ref x3, .ref x4, .ref x5, .int (nI ac), .ref x7, .ref x8, .ref x9, .ref x10, .ref x11, .int (nI sp), .int (nI ou)])), (x3, .inl (eI E, 255, .inl g))] [(0, .ref hM), (1, .int a), (2, .int b)] [.int (bP (0 < 1))] 31
      refine r_if_eqF C (y := 0) (tgt := 36) dX6_together_31 (by decide) (fun z => ((by decide) : ¬ (¬ (0 < 1))) (z_eqB.mp z)) ?_
      refine r_iconst C dX6_together_34 ki_0 ?_
      exact RT.1 _ _ _ _ _ dX6_together_35 rfl rfl (⟨rfl, rfl⟩) rfl
    · replace h20_2 : vI b (sA σ) := Decidable.not_not.mp h20_2
      refine r_iconst C dX6_together_23 ki_0 ?_
      refine r_goto C 28 dX6_together_24 (by decide) ?_
      first | (exfalso; omega) | (exfalso; simp_all; done)
set_option maxRecDepth 100000 in
set_option maxHeartbeats 1000000 in
theorem c_X6_longest {l : Launch} {E : Ev} {hM rf x1 sz x3 x4 x5 ac x7 x8 x9 x10 x11 sp ou : Nat} {t1 t2 t3 : Nat → Int32} {g : Nat → Int32} {σ : Sg} (hR : RepM σ g) (hW : Wf σ) {p a : Nat} (hp : p < sP σ) (ha : a < sA σ) : Ct l E yX6_longest cX6_longest 6 (some FieldType.int) 5 122 [.ref hM, .int (nI p), .int (nI a)] [(hM, .inr (6, [.int (nI rf), .ref x1, .int (nI sz), .ref x3, .ref x4, .ref x5, .int (nI ac), .ref x7, .ref x8, .ref x9, .ref x10, .ref x11, .int (nI sp), .int (nI ou)])), (x9, .inl (eI E, 6, .inl t1)), (x10, .inl (eI E, 6, .inl t2)), (x11, .inl (eI E, 6, .inl t3)), (x3, .inl (eI E, 255, .inl g))] (fun v9 w9 => ∃ ta tb tc : Nat → Int32, v9 = some (.int (nI (lgB σ p a 20))) ∧ w9 = [(hM, .inr (6, [.int (nI 0), .ref x1, .int (nI sz), .ref x3, .ref x4, .ref x5, .int (nI ac), .ref x7, .ref x8, .ref x9, .ref x10, .ref x11, .int (nI sp), .int (nI ou)])), (x9, .inl (eI E, 6, .inl ta)), (x10, .inl (eI E, 6, .inl tb)), (x11, .inl (eI E, 6, .inl tc)), (x3, .inl (eI E, 255, .inl g))]) := by
  have hwP := hW.P
  have hwA := hW.A
  have hwS := hW.S
  refine ct_of (by decide +kernel) (Nat.le_of_ble_eq_true rfl) (fun ω C RT => ?_)
  show ω [(hM, .inr (6, [.int (nI rf), .ref x1, .int (nI sz), .ref x3, .ref x4, .ref x5, .int (nI ac), .ref x7, .ref x8, .ref x9, .ref x10, .ref x11, .int (nI sp), .int (nI ou)])), (x9, .inl (eI E, 6, .inl t1)), (x10, .inl (eI E, 6, .inl t2)), (x11, .inl (eI E, 6, .inl t3)), (x3, .inl (eI E, 255, .inl g))] [(0, .ref hM), (1, .int (nI p)), (2, .int (nI a))] [] 0
  refine r_aload_n C (i := 0) 0 dX6_longest_0 rfl rfl ?_
  refine r_aload_n C (i := 0) 0 dX6_longest_1 rfl rfl ?_
  refine r_get C 0 3 uX6 rfl rfl (by decide) w_5_64 rfl dX6_longest_2 ?_
  refine r_iload_n C (i := 1) 1 dX6_longest_5 rfl rfl ?_
  refine r_readS (rest := [.ref hM]) C (c_X6_isPart (r := x3) (g := g) (σ := σ) (i := p) (hR := hR) (hW := hW) (hi := (by omega))) lk_X6_isPart w_5_151 [4] dX6_longest_6 rfl rfl rfl ⟨by decide, by decide⟩ (Nat.le_of_ble_eq_true rfl) (st' := [.int (bP (p < sP σ)), .ref hM]) rfl ?_
  refine r_if_eq C (y := 0) (c9 := ¬ (p < sP σ)) 27 dX6_longest_9 (by decide) z_eqB (fun h9_1 => ?_) (fun h9_1 => ?_)
  · refine r_iconst C dX6_longest_27 ki_1 ?_
    first | (exfalso; omega) | (exfalso; simp_all; done)
  · replace h9_1 : p < sP σ := Decidable.not_not.mp h9_1
    refine r_aload_n C (i := 0) 0 dX6_longest_12 rfl rfl ?_
    refine r_get C 0 3 uX6 rfl rfl (by decide) w_5_64 rfl dX6_longest_13 ?_
    refine r_iload_n C (i := 2) 2 dX6_longest_16 rfl rfl ?_
    refine r_readS (rest := [.ref hM]) C (c_X6_isActor (r := x3) (g := g) (σ := σ) (i := a) (hR := hR) (hW := hW) (hi := (by omega))) lk_X6_isActor w_5_154 [4] dX6_longest_17 rfl rfl rfl ⟨by decide, by decide⟩ (Nat.le_of_ble_eq_true rfl) (st' := [.int (bP (a < sA σ)), .ref hM]) rfl ?_
    refine r_if_eq C (y := 0) (c9 := ¬ (a < sA σ)) 27 dX6_longest_20 (by decide) z_eqB (fun h20_2 => ?_) (fun h20_2 => ?_)
    · refine r_iconst C dX6_longest_27 ki_1 ?_
      first | (exfalso; omega) | (exfalso; simp_all; done)
    · replace h20_2 : a < sA σ := Decidable.not_not.mp h20_2
      refine r_iconst C dX6_longest_23 ki_0 ?_
      refine r_goto C 28 dX6_longest_24 (by decide) ?_
      refine r_callV (rest := []) C (c_X6_refused (hM := hM) (rf := rf) (x1 := x1) (sz := sz) (x3 := x3) (x4 := x4) (x5 := x5) (ac := ac) (x7 := x7) (x8 := x8) (x9 := x9) (x10 := x10) (x11 := x11) (sp := sp) (ou := ou) (w := 0) (hw := (by omega))) lk_X6_refused w_5_116 [0] rfl dX6_longest_28 rfl rfl rfl rfl ⟨by decide, by decide⟩ (Nat.le_of_ble_eq_true rfl) ?_
      rintro _ _ ⟨rfl, rfl⟩
      show ω [(hM, .inr (6, [.int (nI 0), .ref x1, .int (nI sz), .ref x3, .ref x4, .ref x5, .int (nI ac), .ref x7, .ref x8, .ref x9, .ref x10, .ref x11, .int (nI sp), .int (nI ou)])), (x9, .inl (eI E, 6, .inl t1)), (x10, .inl (eI E, 6, .inl t2)), (x11, .inl (eI E, 6, .inl t3)), (x3, .inl (eI E, 255, .inl g))] [(0, .ref hM), (1, .int (nI p)), (2, .int (nI a))] [.int (bP (0 < 0))] 31
      refine r_if_eqT C (y := 0) 36 dX6_longest_31 (by decide) (z_eqB.mpr (by decide)) ?_
      refine r_iconst C dX6_longest_36 ki_0 ?_
      refine r_istore_n C (lv' := [(3, .int (nI 0)), (0, .ref hM), (1, .int (nI p)), (2, .int (nI a))]) dX6_longest_37 rfl (by decide) rfl ?_
      refine r_iconst C dX6_longest_38 ki_0 ?_
      refine r_istore C (lv' := [(4, .int (nI 0)), (3, .int (nI 0)), (0, .ref hM), (1, .int (nI p)), (2, .int (nI a))]) dX6_longest_39 (by decide) rfl ?_
      refine r_iconst C dX6_longest_41 ki_0 ?_
      refine r_istore C (lv' := [(5, .int (nI 0)), (4, .int (nI 0)), (3, .int (nI 0)), (0, .ref hM), (1, .int (nI p)), (2, .int (nI a))]) dX6_longest_42 (by decide) rfl ?_
      have loop44_3 : ∀ (dd9 : Nat) (k : Nat) (r : Nat) (m : Nat) (s1 : Nat → Int32) (s2 : Nat → Int32) (s3 : Nat → Int32), 20 - k < dd9 → (k ≤ 20) → (r = lgR σ p a k) → (m = lgB σ p a k) → ω [(hM, .inr (6, [.int (nI 0), .ref x1, .int (nI sz), .ref x3, .ref x4, .ref x5, .int (nI ac), .ref x7, .ref x8, .ref x9, .ref x10, .ref x11, .int (nI sp), .int (nI ou)])), (x9, .inl (eI E, 6, .inl s1)), (x10, .inl (eI E, 6, .inl s2)), (x11, .inl (eI E, 6, .inl s3)), (x3, .inl (eI E, 255, .inl g))] [(5, .int (nI k)), (4, .int (nI r)), (3, .int (nI m)), (0, .ref hM), (1, .int (nI p)), (2, .int (nI a))] [] 44 := by
        intro dd9
        induction dd9 with
        | zero => intro k r m s1 s2 s3 hd; exact absurd hd (Nat.not_lt_zero _)
        | succ dd9 ih4 =>
          intro k r m s1 s2 s3 hd hk hr hm
          have hml := lgB_le σ p a k
          have hrl := lgR_le σ p a k
          refine r_iload C (i := 5) 0 dX6_longest_44 rfl ?_
          refine r_bipush C dX6_longest_46 kb_20 ?_
          refine r_icmp_ge C (c9 := 20 ≤ k) 91 dX6_longest_48 (by decide) (c_leNN (by omega) (by omega)) (fun h48_5 => ?_) (fun h48_5 => ?_)
          · refine r_iload_n C (i := 3) 2 dX6_longest_91 rfl rfl ?_
            exact RT.1 _ _ _ _ _ dX6_longest_92 rfl rfl (⟨_, _, _, sv (congrArg nI (by rw [hm, (by omega : k = 20)])), rfl⟩) rfl
          · refine r_aload_n C (i := 0) 3 dX6_longest_51 rfl rfl ?_
            refine r_iload C (i := 5) 0 dX6_longest_52 rfl ?_
            refine r_iload_n C (i := 1) 4 dX6_longest_54 rfl rfl ?_
            refine r_iload_n C (i := 2) 5 dX6_longest_55 rfl rfl ?_
            refine r_callV (rest := []) C (c_X6_isPlayed (hM := hM) (rf := 0) (x1 := x1) (sz := sz) (x3 := x3) (x4 := x4) (x5 := x5) (ac := ac) (x7 := x7) (x8 := x8) (x9 := x9) (x10 := x10) (x11 := x11) (sp := sp) (ou := ou) (t1 := s1) (t2 := s2) (t3 := s3) (g := g) (σ := σ) (n := k) (p := p) (a := a) (hR := hR) (hW := hW) (hn := (by omega)) (hp := (by omega)) (ha := (by omega))) lk_X6_isPlayed w_6_109 [0, 1, 2, 3, 4] rfl dX6_longest_56 rfl rfl rfl rfl ⟨by decide, by decide⟩ (Nat.le_of_ble_eq_true rfl) ?_
            rintro _ _ ⟨ta_6, tb_7, tc_8, rfl, rfl⟩
            show ω [(hM, .inr (6, [.int (nI 0), .ref x1, .int (nI sz), .ref x3, .ref x4, .ref x5, .int (nI ac), .ref x7, .ref x8, .ref x9, .ref x10, .ref x11, .int (nI sp), .int (nI ou)])), (x9, .inl (eI E, 6, .inl ta_6)), (x10, .inl (eI E, 6, .inl tb_7)), (x11, .inl (eI E, 6, .inl tc_8)), (x3, .inl (eI E, 255, .inl g))] [(5, .int (nI k)), (4, .int (nI r)), (3, .int (nI m)), (0, .ref hM), (1, .int (nI p)), (2, .int (nI a))] [.int (bP (isPl σ p a k))] 59
            refine r_if_eq C (y := 0) (c9 := ¬ (isPl σ p a k)) 69 dX6_longest_59 (by decide) z_eqB (fun h59_9 => ?_) (fun h59_9 => ?_)
            · refine r_iconst C dX6_longest_69 ki_0 ?_
              refine r_istore C (lv' := [(4, .int (nI 0)), (5, .int (nI k)), (3, .int (nI m)), (0, .ref hM), (1, .int (nI p)), (2, .int (nI a))]) dX6_longest_70 (by decide) rfl ?_
              refine r_iload C (i := 4) 0 dX6_longest_72 rfl ?_
              refine r_iload_n C (i := 3) 2 dX6_longest_74 rfl rfl ?_
              refine r_icmp_le C (c9 := 0 ≤ m) 83 dX6_longest_75 (by decide) (c_leNN (by omega) (by omega)) (fun h75_10 => ?_) (fun h75_10 => ?_)
              · refine r_iload_n C (i := 3) 2 dX6_longest_83 rfl rfl ?_
                refine r_istore_n C (lv' := [(3, .int (nI m)), (4, .int (nI 0)), (5, .int (nI k)), (0, .ref hM), (1, .int (nI p)), (2, .int (nI a))]) dX6_longest_84 rfl (by decide) rfl ?_
                refine r_iinc C (lv' := [(5, .int (nI (k + 1))), (3, .int (nI m)), (4, .int (nI 0)), (0, .ref hM), (1, .int (nI p)), (2, .int (nI a))]) (v := nI (k + 1)) 2 dX6_longest_85 rfl (v_inc _) (by decide) rfl ?_
                refine r_goto C 44 dX6_longest_88 (by decide) ?_
                refine r_lv (lv' := [(5, .int (nI (k + 1))), (4, .int (nI 0)), (3, .int (nI m)), (0, .ref hM), (1, .int (nI p)), (2, .int (nI a))]) C [0, 2, 1, 3, 4, 5] rfl ?_
                exact ih4 (k + 1) 0 m ta_6 tb_7 tc_8 (by omega) (by omega) (by rw [lgR, if_neg h59_9]) (by rw [lgB, ← (by rw [lgR, if_neg h59_9] : 0 = lgR σ p a (k + 1)), if_neg (by omega), hm])
              · refine r_iload C (i := 4) 0 dX6_longest_78 rfl ?_
                refine r_goto C 84 dX6_longest_80 (by decide) ?_
                refine r_istore_n C (lv' := [(3, .int (nI 0)), (4, .int (nI 0)), (5, .int (nI k)), (0, .ref hM), (1, .int (nI p)), (2, .int (nI a))]) dX6_longest_84 rfl (by decide) rfl ?_
                refine r_iinc C (lv' := [(5, .int (nI (k + 1))), (3, .int (nI 0)), (4, .int (nI 0)), (0, .ref hM), (1, .int (nI p)), (2, .int (nI a))]) (v := nI (k + 1)) 2 dX6_longest_85 rfl (v_inc _) (by decide) rfl ?_
                refine r_goto C 44 dX6_longest_88 (by decide) ?_
                refine r_lv (lv' := [(5, .int (nI (k + 1))), (4, .int (nI 0)), (3, .int (nI 0)), (0, .ref hM), (1, .int (nI p)), (2, .int (nI a))]) C [0, 2, 1, 3, 4, 5] rfl ?_
                exact ih4 (k + 1) 0 0 ta_6 tb_7 tc_8 (by omega) (by omega) (by rw [lgR, if_neg h59_9]) (by rw [lgB, ← (by rw [lgR, if_neg h59_9] : 0 = lgR σ p a (k + 1)), if_pos (by omega)])
            · replace h59_9 : isPl σ p a k := Decidable.not_not.mp h59_9
              refine r_iload C (i := 4) 1 dX6_longest_62 rfl ?_
              refine r_iconst C dX6_longest_64 ki_1 ?_
              refine r_iadd (v := nI (r + 1)) C dX6_longest_65 (nI_add _ _) ?_
              refine r_goto C 70 dX6_longest_66 (by decide) ?_
              refine r_istore C (lv' := [(4, .int (nI (r + 1))), (5, .int (nI k)), (3, .int (nI m)), (0, .ref hM), (1, .int (nI p)), (2, .int (nI a))]) dX6_longest_70 (by decide) rfl ?_
              refine r_iload C (i := 4) 0 dX6_longest_72 rfl ?_
              refine r_iload_n C (i := 3) 2 dX6_longest_74 rfl rfl ?_
              refine r_icmp_le C (c9 := r + 1 ≤ m) 83 dX6_longest_75 (by decide) (c_leNN (by omega) (by omega)) (fun h75_11 => ?_) (fun h75_11 => ?_)
              · refine r_iload_n C (i := 3) 2 dX6_longest_83 rfl rfl ?_
                refine r_istore_n C (lv' := [(3, .int (nI m)), (4, .int (nI (r + 1))), (5, .int (nI k)), (0, .ref hM), (1, .int (nI p)), (2, .int (nI a))]) dX6_longest_84 rfl (by decide) rfl ?_
                refine r_iinc C (lv' := [(5, .int (nI (k + 1))), (3, .int (nI m)), (4, .int (nI (r + 1))), (0, .ref hM), (1, .int (nI p)), (2, .int (nI a))]) (v := nI (k + 1)) 2 dX6_longest_85 rfl (v_inc _) (by decide) rfl ?_
                refine r_goto C 44 dX6_longest_88 (by decide) ?_
                refine r_lv (lv' := [(5, .int (nI (k + 1))), (4, .int (nI (r + 1))), (3, .int (nI m)), (0, .ref hM), (1, .int (nI p)), (2, .int (nI a))]) C [0, 2, 1, 3, 4, 5] rfl ?_
                exact ih4 (k + 1) (r + 1) m ta_6 tb_7 tc_8 (by omega) (by omega) (by rw [lgR, hr, if_pos h59_9]) (by rw [lgB, ← (by rw [lgR, hr, if_pos h59_9] : r + 1 = lgR σ p a (k + 1)), if_neg (by omega), hm])
              · refine r_iload C (i := 4) 0 dX6_longest_78 rfl ?_
                refine r_goto C 84 dX6_longest_80 (by decide) ?_
                refine r_istore_n C (lv' := [(3, .int (nI (r + 1))), (4, .int (nI (r + 1))), (5, .int (nI k)), (0, .ref hM), (1, .int (nI p)), (2, .int (nI a))]) dX6_longest_84 rfl (by decide) rfl ?_
                refine r_iinc C (lv' := [(5, .int (nI (k + 1))), (3, .int (nI (r + 1))), (4, .int (nI (r + 1))), (0, .ref hM), (1, .int (nI p)), (2, .int (nI a))]) (v := nI (k + 1)) 2 dX6_longest_85 rfl (v_inc _) (by decide) rfl ?_
                refine r_goto C 44 dX6_longest_88 (by decide) ?_
                refine r_lv (lv' := [(5, .int (nI (k + 1))), (4, .int (nI (r + 1))), (3, .int (nI (r + 1))), (0, .ref hM), (1, .int (nI p)), (2, .int (nI a))]) C [0, 2, 1, 3, 4, 5] rfl ?_
                exact ih4 (k + 1) (r + 1) (r + 1) ta_6 tb_7 tc_8 (by omega) (by omega) (by rw [lgR, hr, if_pos h59_9]) (by rw [lgB, ← (by rw [lgR, hr, if_pos h59_9] : r + 1 = lgR σ p a (k + 1)), if_pos (by omega)])
      exact loop44_3 _ 0 0 0 t1 t2 t3 (Nat.lt_succ_self _) (by omega) rfl rfl
set_option maxRecDepth 100000 in
set_option maxHeartbeats 1000000 in
theorem c_X6_longest__x1 {l : Launch} {E : Ev} {hM rf x1 sz x3 x4 x5 ac x7 x8 x9 x10 x11 sp ou : Nat} {g : Nat → Int32} {σ : Sg} (hR : RepM σ g) (hW : Wf σ) {p a : Int32} (hx : ¬ (vI p (sP σ) ∧ vI a (sA σ))) : Ct l E yX6_longest cX6_longest 6 (some FieldType.int) 5 122 [.ref hM, .int p, .int a] [(hM, .inr (6, [.int (nI rf), .ref x1, .int (nI sz), .ref x3, .ref x4, .ref x5, .int (nI ac), .ref x7, .ref x8, .ref x9, .ref x10, .ref x11, .int (nI sp), .int (nI ou)])), (x3, .inl (eI E, 255, .inl g))] (fun v9 w9 => v9 = some (.int (nI 0)) ∧ w9 = [(hM, .inr (6, [.int (nI 1), .ref x1, .int (nI sz), .ref x3, .ref x4, .ref x5, .int (nI ac), .ref x7, .ref x8, .ref x9, .ref x10, .ref x11, .int (nI sp), .int (nI ou)])), (x3, .inl (eI E, 255, .inl g))]) := by
  have hwP := hW.P
  have hwA := hW.A
  have hwS := hW.S
  refine ct_of (by decide +kernel) (Nat.le_of_ble_eq_true rfl) (fun ω C RT => ?_)
  show ω [(hM, .inr (6, [.int (nI rf), .ref x1, .int (nI sz), .ref x3, .ref x4, .ref x5, .int (nI ac), .ref x7, .ref x8, .ref x9, .ref x10, .ref x11, .int (nI sp), .int (nI ou)])), (x3, .inl (eI E, 255, .inl g))] [(0, .ref hM), (1, .int p), (2, .int a)] [] 0
  refine r_aload_n C (i := 0) 0 dX6_longest_0 rfl rfl ?_
  refine r_aload_n C (i := 0) 0 dX6_longest_1 rfl rfl ?_
  refine r_get C 0 3 uX6 rfl rfl (by decide) w_5_64 rfl dX6_longest_2 ?_
  refine r_iload_n C (i := 1) 1 dX6_longest_5 rfl rfl ?_
  refine r_readS (rest := [.ref hM]) C (c_X6_isPart__r (r := x3) (g := g) (σ := σ) (x := p) (hR := hR) (hW := hW)) lk_X6_isPart w_5_151 [1] dX6_longest_6 rfl rfl rfl ⟨by decide, by decide⟩ (Nat.le_of_ble_eq_true rfl) (st' := [.int (bP (vI p (sP σ))), .ref hM]) rfl ?_
  refine r_if_eq C (y := 0) (c9 := ¬ (vI p (sP σ))) 27 dX6_longest_9 (by decide) z_eqB (fun h9_1 => ?_) (fun h9_1 => ?_)
  · refine r_iconst C dX6_longest_27 ki_1 ?_
    refine r_callV (rest := []) C (c_X6_refused (hM := hM) (rf := rf) (x1 := x1) (sz := sz) (x3 := x3) (x4 := x4) (x5 := x5) (ac := ac) (x7 := x7) (x8 := x8) (x9 := x9) (x10 := x10) (x11 := x11) (sp := sp) (ou := ou) (w := 1) (hw := (by omega))) lk_X6_refused w_5_116 [0] rfl dX6_longest_28 rfl rfl rfl rfl ⟨by decide, by decide⟩ (Nat.le_of_ble_eq_true rfl) ?_
    rintro _ _ ⟨rfl, rfl⟩
    show ω [(hM, .inr (6, [.int (nI 1), .ref x1, .int (nI sz), .ref x3, .ref x4, .ref x5, .int (nI ac), .ref x7, .ref x8, .ref x9, .ref x10, .ref x11, .int (nI sp), .int (nI ou)])), (x3, .inl (eI E, 255, .inl g))] [(0, .ref hM), (1, .int p), (2, .int a)] [.int (bP (0 < 1))] 31
    refine r_if_eqF C (y := 0) (tgt := 36) dX6_longest_31 (by decide) (fun z => ((by decide) : ¬ (¬ (0 < 1))) (z_eqB.mp z)) ?_
    refine r_iconst C dX6_longest_34 ki_0 ?_
    exact RT.1 _ _ _ _ _ dX6_longest_35 rfl rfl (⟨rfl, rfl⟩) rfl
  · replace h9_1 : vI p (sP σ) := Decidable.not_not.mp h9_1
    refine r_aload_n C (i := 0) 0 dX6_longest_12 rfl rfl ?_
    refine r_get C 0 3 uX6 rfl rfl (by decide) w_5_64 rfl dX6_longest_13 ?_
    refine r_iload_n C (i := 2) 2 dX6_longest_16 rfl rfl ?_
    refine r_readS (rest := [.ref hM]) C (c_X6_isActor__r (r := x3) (g := g) (σ := σ) (x := a) (hR := hR) (hW := hW)) lk_X6_isActor w_5_154 [1] dX6_longest_17 rfl rfl rfl ⟨by decide, by decide⟩ (Nat.le_of_ble_eq_true rfl) (st' := [.int (bP (vI a (sA σ))), .ref hM]) rfl ?_
    refine r_if_eq C (y := 0) (c9 := ¬ (vI a (sA σ))) 27 dX6_longest_20 (by decide) z_eqB (fun h20_2 => ?_) (fun h20_2 => ?_)
    · refine r_iconst C dX6_longest_27 ki_1 ?_
      refine r_callV (rest := []) C (c_X6_refused (hM := hM) (rf := rf) (x1 := x1) (sz := sz) (x3 := x3) (x4 := x4) (x5 := x5) (ac := ac) (x7 := x7) (x8 := x8) (x9 := x9) (x10 := x10) (x11 := x11) (sp := sp) (ou := ou) (w := 1) (hw := (by omega))) lk_X6_refused w_5_116 [0] rfl dX6_longest_28 rfl rfl rfl rfl ⟨by decide, by decide⟩ (Nat.le_of_ble_eq_true rfl) ?_
      rintro _ _ ⟨rfl, rfl⟩
      show ω [(hM, .inr (6, [.int (nI 1), .ref x1, .int (nI sz), .ref x3, .ref x4, .ref x5, .int (nI ac), .ref x7, .ref x8, .ref x9, .ref x10, .ref x11, .int (nI sp), .int (nI ou)])), (x3, .inl (eI E, 255, .inl g))] [(0, .ref hM), (1, .int p), (2, .int a)] [.int (bP (0 < 1))] 31
      refine r_if_eqF C (y := 0) (tgt := 36) dX6_longest_31 (by decide) (fun z => ((by decide) : ¬ (¬ (0 < 1))) (z_eqB.mp z)) ?_
      refine r_iconst C dX6_longest_34 ki_0 ?_
      exact RT.1 _ _ _ _ _ dX6_longest_35 rfl rfl (⟨rfl, rfl⟩) rfl
    · replace h20_2 : vI a (sA σ) := Decidable.not_not.mp h20_2
      refine r_iconst C dX6_longest_23 ki_0 ?_
      refine r_goto C 28 dX6_longest_24 (by decide) ?_
      first | (exfalso; omega) | (exfalso; simp_all; done)
