def HistC (hs : Nat → Sg) (cnt od : Nat) (D : Nat → Int32) : Prop := cnt ≤ 14 ∧ od < 14 ∧ ∀ k, k < cnt → Wf (hs k) ∧ RepC (hs k) (fun j => D ((od + k) % 14 * 265 + j))
theorem HistC_p {hs : Nat → Sg} {cnt od : Nat} {D f : Nat → Int32} {σ : Sg} (h : HistC hs cnt od D) (hne : cnt < 14) (hW : Wf σ) (hR : RepC σ f) : HistC (pushH hs cnt σ) (cnt + 1) od (va_cpy f D 0 ((od + cnt) % 14 * 265) 265) := by
  obtain ⟨h1, h2, h3⟩ := h
  refine ⟨by omega, h2, fun k hk => ?_⟩
  unfold pushH
  rw [if_neg (by omega)]
  by_cases e : k = cnt
  · subst e
    rw [if_pos rfl]
    refine ⟨hW, RepC_eq hW hR (fun j hj => ?_)⟩
    show va_cpy f D 0 ((od + k) % 14 * 265) 265 ((od + k) % 14 * 265 + j) = f j
    unfold va_cpy
    rw [if_pos (by omega), show 0 + ((od + k) % 14 * 265 + j - (od + k) % 14 * 265) = j from by omega]
  · rw [if_neg e]
    obtain ⟨h4, h5⟩ := h3 k (by omega)
    refine ⟨h4, RepC_eq h4 h5 (fun j hj => ?_)⟩
    show va_cpy f D 0 ((od + cnt) % 14 * 265) 265 ((od + k) % 14 * 265 + j) = D ((od + k) % 14 * 265 + j)
    unfold va_cpy
    have : (od + k) % 14 ≠ (od + cnt) % 14 := by omega
    rw [if_neg (by omega)]
theorem HistC_s {hs : Nat → Sg} {od : Nat} {D f : Nat → Int32} {σ : Sg} (h : HistC hs 14 od D) (hW : Wf σ) (hR : RepC σ f) : HistC (pushH hs 14 σ) 14 ((od + 1) % 14) (va_cpy f D 0 ((od + 14) % 14 * 265) 265) := by
  obtain ⟨h1, h2, h3⟩ := h
  refine ⟨h1, by omega, fun k hk => ?_⟩
  unfold pushH
  rw [if_pos rfl]
  by_cases e : k = 13
  · subst e
    rw [if_pos rfl]
    refine ⟨hW, RepC_eq hW hR (fun j hj => ?_)⟩
    show va_cpy f D 0 ((od + 14) % 14 * 265) 265 (((od + 1) % 14 + 13) % 14 * 265 + j) = f j
    unfold va_cpy
    have : ((od + 1) % 14 + 13) % 14 = (od + 14) % 14 := by omega
    rw [this, if_pos (by omega), show 0 + ((od + 14) % 14 * 265 + j - (od + 14) % 14 * 265) = j from by omega]
  · rw [if_neg e]
    obtain ⟨h4, h5⟩ := h3 (k + 1) (by omega)
    refine ⟨h4, RepC_eq h4 h5 (fun j hj => ?_)⟩
    show va_cpy f D 0 ((od + 14) % 14 * 265) 265 (((od + 1) % 14 + k) % 14 * 265 + j) = D ((od + (k + 1)) % 14 * 265 + j)
    unfold va_cpy
    have e1 : ((od + 1) % 14 + k) % 14 = (od + (k + 1)) % 14 := by omega
    have e2 : (od + (k + 1)) % 14 ≠ (od + 14) % 14 := by omega
    rw [e1, if_neg (by omega)]
set_option maxRecDepth 100000 in
set_option maxHeartbeats 1000000 in
theorem c_X1_remember {l : Launch} {E : Ev} {hh hr od cnt h0 q1 : Nat} {f D : Nat → Int32} {σ : Sg} {hs : Nat → Sg} (hH : HistC hs cnt od D) (hR : RepC σ f) (hW : Wf σ) : Ct l E yX1_remember cX1_remember 2 none 2 52 [.ref hh, .ref h0] [(hh, .inr (1, [.ref hr, .int (nI od), .int (nI cnt)])), (hr, .inl (eI E, 3710, .inl D)), (h0, .inr (4, [.ref q1])), (q1, .inl (eI E, 265, .inl f))] (fun v9 w9 => ∃ (od2 : Nat) (D2 : Nat → Int32), v9 = none ∧ w9 = [(hh, .inr (1, [.ref hr, .int (nI od2), .int (nI (pushN cnt))])), (hr, .inl (eI E, 3710, .inl D2)), (h0, .inr (4, [.ref q1])), (q1, .inl (eI E, 265, .inl f))] ∧ HistC (pushH hs cnt σ) (pushN cnt) od2 D2) := by
  have h14 := hH.1
  have hod := hH.2.1
  refine ct_of (by decide +kernel) (Nat.le_of_ble_eq_true rfl) (fun ω C RT => ?_)
  show ω [(hh, .inr (1, [.ref hr, .int (nI od), .int (nI cnt)])), (hr, .inl (eI E, 3710, .inl D)), (h0, .inr (4, [.ref q1])), (q1, .inl (eI E, 265, .inl f))] [(0, .ref hh), (1, .ref h0)] [] 0
  refine r_aload_n C (i := 1) 1 dX1_remember_0 rfl rfl ?_
  refine r_ifnonnull C 5 dX1_remember_1 (by decide) ?_
  refine r_aload_n C (i := 1) 1 dX1_remember_5 rfl rfl ?_
  refine r_aload_n C (i := 0) 0 dX1_remember_6 rfl rfl ?_
  refine r_get C 0 0 uX1 rfl rfl (by decide) w_1_49 rfl dX1_remember_7 ?_
  refine r_aload_n C (i := 0) 0 dX1_remember_10 rfl rfl ?_
  refine r_get C 0 1 uX1 rfl rfl (by decide) w_1_50 rfl dX1_remember_11 ?_
  refine r_aload_n C (i := 0) 0 dX1_remember_14 rfl rfl ?_
  refine r_get C 0 2 uX1 rfl rfl (by decide) w_1_51 rfl dX1_remember_15 ?_
  refine r_iadd (v := nI (od + cnt)) C dX1_remember_18 (nI_add _ _) ?_
  refine r_bipush C dX1_remember_19 kb_14 ?_
  refine r_irem (v := nI ((od + cnt) % 14)) C dX1_remember_21 (v_nz (by omega) (by omega)) (v_rem (by omega) (by omega) (by omega)) ?_
  refine r_callV (rest := []) C (c_X4_storeIn__h (h0 := h0) (q1 := q1) (q2 := hr) (f := f) (F := D) (k := (od + cnt) % 14) (hk := (by omega))) lk_X4_storeIn w_2_17 [2, 3, 1] rfl dX1_remember_22 rfl rfl rfl rfl ⟨by decide, by decide⟩ (Nat.le_of_ble_eq_true rfl) ?_
  rintro _ _ ⟨rfl, rfl⟩
  show ω [(hh, .inr (1, [.ref hr, .int (nI od), .int (nI cnt)])), (hr, .inl (eI E, 3710, .inl (va_cpy f D 0 (((od + cnt) % 14) * 265) 265))), (h0, .inr (4, [.ref q1])), (q1, .inl (eI E, 265, .inl f))] [(0, .ref hh), (1, .ref h0)] [] 25
  refine r_aload_n C (i := 0) 0 dX1_remember_25 rfl rfl ?_
  refine r_get C 0 2 uX1 rfl rfl (by decide) w_1_51 rfl dX1_remember_26 ?_
  refine r_bipush C dX1_remember_29 kb_14 ?_
  refine r_icmp_ge C (c9 := 14 ≤ cnt) 47 dX1_remember_31 (by decide) (c_leNN (by omega) (by omega)) (fun h31_1 => ?_) (fun h31_1 => ?_)
  · refine r_aload_n C (i := 0) 0 dX1_remember_47 rfl rfl ?_
    refine r_aload_n C (i := 0) 0 dX1_remember_48 rfl rfl ?_
    refine r_get C 0 1 uX1 rfl rfl (by decide) w_1_50 rfl dX1_remember_49 ?_
    refine r_iconst C dX1_remember_52 ki_1 ?_
    refine r_iadd (v := nI (od + 1)) C dX1_remember_53 (nI_add _ _) ?_
    refine r_bipush C dX1_remember_54 kb_14 ?_
    refine r_irem (v := nI ((od + 1) % 14)) C dX1_remember_56 (v_nz (by omega) (by omega)) (v_rem (by omega) (by omega) (by omega)) ?_
    refine r_put (ws' := [(hh, .inr (1, [.ref hr, .int (nI ((od + 1) % 14)), .int (nI cnt)])), (hr, .inl (eI E, 3710, .inl (va_cpy f D 0 (((od + cnt) % 14) * 265) 265))), (h0, .inr (4, [.ref q1])), (q1, .inl (eI E, 265, .inl f))]) C 0 1 uX1 rfl tyX1_ok nmX1 rfl (by decide) w_1_50 rfl (tyX1_ok 1 (by decide)) rfl rfl (Nat.le_of_ble_eq_true rfl) rfl dX1_remember_57 ?_
    exact RT.2.2.1 _ _ _ dX1_remember_60 rfl (⟨_, _, rfl, by rw [show pushN cnt = cnt from (if_pos (by omega : cnt = 14)).trans (by omega)], by obtain rfl : cnt = 14 := (by omega); exact HistC_s hH hW hR⟩) rfl
  · refine r_aload_n C (i := 0) 0 dX1_remember_34 rfl rfl ?_
    refine r_dup C dX1_remember_35 rfl ?_
    refine r_get C 0 2 uX1 rfl rfl (by decide) w_1_51 rfl dX1_remember_36 ?_
    refine r_iconst C dX1_remember_39 ki_1 ?_
    refine r_iadd (v := nI (cnt + 1)) C dX1_remember_40 (nI_add _ _) ?_
    refine r_put (ws' := [(hh, .inr (1, [.ref hr, .int (nI od), .int (nI (cnt + 1))])), (hr, .inl (eI E, 3710, .inl (va_cpy f D 0 (((od + cnt) % 14) * 265) 265))), (h0, .inr (4, [.ref q1])), (q1, .inl (eI E, 265, .inl f))]) C 0 2 uX1 rfl tyX1_ok nmX1 rfl (by decide) w_1_51 rfl (tyX1_ok 2 (by decide)) rfl rfl (Nat.le_of_ble_eq_true rfl) rfl dX1_remember_41 ?_
    refine r_goto C 60 dX1_remember_44 (by decide) ?_
    exact RT.2.2.1 _ _ _ dX1_remember_60 rfl (⟨_, _, rfl, by rw [show pushN cnt = cnt + 1 from if_neg (by omega)], by rw [show pushN cnt = cnt + 1 from if_neg (by omega)]; exact HistC_p hH (by omega) hW hR⟩) rfl
set_option maxRecDepth 100000 in
set_option maxHeartbeats 1000000 in
theorem c_X1_takeBack {l : Launch} {E : Ev} {hh hr od cnt h0 q1 : Nat} {f D : Nat → Int32} {hs : Nat → Sg} (hH : HistC hs cnt od D) (hc : 0 < cnt) : Ct l E yX1_takeBack cX1_takeBack 2 none 2 52 [.ref hh, .ref h0] [(hh, .inr (1, [.ref hr, .int (nI od), .int (nI cnt)])), (hr, .inl (eI E, 3710, .inl D)), (h0, .inr (4, [.ref q1])), (q1, .inl (eI E, 265, .inl f))] (fun v9 w9 => ∃ f2 : Nat → Int32, v9 = none ∧ w9 = [(hh, .inr (1, [.ref hr, .int (nI od), .int (nI (cnt - 1))])), (hr, .inl (eI E, 3710, .inl D)), (h0, .inr (4, [.ref q1])), (q1, .inl (eI E, 265, .inl f2))] ∧ RepC (hs (cnt - 1)) f2 ∧ HistC hs (cnt - 1) od D) := by
  have h14 := hH.1
  have hod := hH.2.1
  refine ct_of (by decide +kernel) (Nat.le_of_ble_eq_true rfl) (fun ω C RT => ?_)
  show ω [(hh, .inr (1, [.ref hr, .int (nI od), .int (nI cnt)])), (hr, .inl (eI E, 3710, .inl D)), (h0, .inr (4, [.ref q1])), (q1, .inl (eI E, 265, .inl f))] [(0, .ref hh), (1, .ref h0)] [] 0
  refine r_aload_n C (i := 1) 1 dX1_takeBack_0 rfl rfl ?_
  refine r_ifnull C dX1_takeBack_1 ?_
  refine r_aload_n C (i := 0) 0 dX1_takeBack_4 rfl rfl ?_
  refine r_get C 0 2 uX1 rfl rfl (by decide) w_1_51 rfl dX1_takeBack_5 ?_
  refine r_if_neT C (y := 0) 12 dX1_takeBack_8 (by decide) ((z_neN (by omega)).mpr (by omega)) ?_
  refine r_aload_n C (i := 0) 0 dX1_takeBack_12 rfl rfl ?_
  refine r_dup C dX1_takeBack_13 rfl ?_
  refine r_get C 0 2 uX1 rfl rfl (by decide) w_1_51 rfl dX1_takeBack_14 ?_
  refine r_iconst C dX1_takeBack_17 ki_1 ?_
  refine r_isub (v := nI (cnt - 1)) C dX1_takeBack_18 (v_sub (by omega)) ?_
  refine r_put (ws' := [(hh, .inr (1, [.ref hr, .int (nI od), .int (nI (cnt - 1))])), (hr, .inl (eI E, 3710, .inl D)), (h0, .inr (4, [.ref q1])), (q1, .inl (eI E, 265, .inl f))]) C 0 2 uX1 rfl tyX1_ok nmX1 rfl (by decide) w_1_51 rfl (tyX1_ok 2 (by decide)) rfl rfl (Nat.le_of_ble_eq_true rfl) rfl dX1_takeBack_19 ?_
  refine r_aload_n C (i := 1) 1 dX1_takeBack_22 rfl rfl ?_
  refine r_aload_n C (i := 0) 0 dX1_takeBack_23 rfl rfl ?_
  refine r_get C 0 0 uX1 rfl rfl (by decide) w_1_49 rfl dX1_takeBack_24 ?_
  refine r_aload_n C (i := 0) 0 dX1_takeBack_27 rfl rfl ?_
  refine r_get C 0 1 uX1 rfl rfl (by decide) w_1_50 rfl dX1_takeBack_28 ?_
  refine r_aload_n C (i := 0) 0 dX1_takeBack_31 rfl rfl ?_
  refine r_get C 0 2 uX1 rfl rfl (by decide) w_1_51 rfl dX1_takeBack_32 ?_
  refine r_iadd (v := nI (od + (cnt - 1))) C dX1_takeBack_35 (nI_add _ _) ?_
  refine r_bipush C dX1_takeBack_36 kb_14 ?_
  refine r_irem (v := nI ((od + (cnt - 1)) % 14)) C dX1_takeBack_38 (v_nz (by omega) (by omega)) (v_rem (by omega) (by omega) (by omega)) ?_
  refine r_callV (rest := []) C (c_X4_fetchFrom__h (h0 := h0) (q1 := q1) (q2 := hr) (f := f) (F := D) (k := (od + (cnt - 1)) % 14) (σ := (hs (cnt - 1))) (hk := (by omega)) (hW := ((hH.2.2 (cnt - 1) (by omega)).1)) (hF := ((hH.2.2 (cnt - 1) (by omega)).2))) lk_X4_fetchFrom w_4_150 [2, 3, 1] rfl dX1_takeBack_39 rfl rfl rfl rfl ⟨by decide, by decide⟩ (Nat.le_of_ble_eq_true rfl) ?_
  rintro _ _ ⟨f_1, rfl, rfl, hR_2⟩
  show ω [(hh, .inr (1, [.ref hr, .int (nI od), .int (nI (cnt - 1))])), (hr, .inl (eI E, 3710, .inl D)), (h0, .inr (4, [.ref q1])), (q1, .inl (eI E, 265, .inl f_1))] [(0, .ref hh), (1, .ref h0)] [] 42
  exact RT.2.2.1 _ _ _ dX1_takeBack_42 rfl (⟨_, rfl, rfl, hR_2, ⟨by omega, hod, fun k hk => hH.2.2 k (by omega)⟩⟩) rfl
set_option maxRecDepth 100000 in
set_option maxHeartbeats 1000000 in
theorem c_X1_forget {l : Launch} {E : Ev} {hh hr od cnt : Nat} : Ct l E yX1_forget cX1_forget 1 none 0 0 [.ref hh] [(hh, .inr (1, [.ref hr, .int (nI od), .int (nI cnt)]))] (fun v9 w9 => v9 = none ∧ w9 = [(hh, .inr (1, [.ref hr, .int (nI 0), .int (nI 0)]))]) := by
  refine ct_of (by decide +kernel) (Nat.le_of_ble_eq_true rfl) (fun ω C RT => ?_)
  show ω [(hh, .inr (1, [.ref hr, .int (nI od), .int (nI cnt)]))] [(0, .ref hh)] [] 0
  refine r_aload_n C (i := 0) 0 dX1_forget_0 rfl rfl ?_
  refine r_iconst C dX1_forget_1 ki_0 ?_
  refine r_put (ws' := [(hh, .inr (1, [.ref hr, .int (nI 0), .int (nI cnt)]))]) C 0 1 uX1 rfl tyX1_ok nmX1 rfl (by decide) w_1_50 rfl (tyX1_ok 1 (by decide)) rfl rfl (Nat.le_of_ble_eq_true rfl) rfl dX1_forget_2 ?_
  refine r_aload_n C (i := 0) 0 dX1_forget_5 rfl rfl ?_
  refine r_iconst C dX1_forget_6 ki_0 ?_
  refine r_put (ws' := [(hh, .inr (1, [.ref hr, .int (nI 0), .int (nI 0)]))]) C 0 2 uX1 rfl tyX1_ok nmX1 rfl (by decide) w_1_51 rfl (tyX1_ok 2 (by decide)) rfl rfl (Nat.le_of_ble_eq_true rfl) rfl dX1_forget_7 ?_
  exact RT.2.2.1 _ _ _ dX1_forget_10 rfl (⟨rfl, rfl⟩) rfl
set_option maxRecDepth 100000 in
set_option maxHeartbeats 1000000 in
theorem c_X1_size {l : Launch} {E : Ev} {hh hr od cnt : Nat} : Cr l E yX1_size cX1_size 1 (some FieldType.int) 0 0 [.ref hh] [(hh, .inr (1, [.ref hr, .int (nI od), .int (nI cnt)]))] (some (.int (nI cnt))) := by
  refine ct_of (by decide +kernel) (Nat.le_of_ble_eq_true rfl) (fun ω C RT => ?_)
  show ω [(hh, .inr (1, [.ref hr, .int (nI od), .int (nI cnt)]))] [(0, .ref hh)] [] 0
  refine r_aload_n C (i := 0) 0 dX1_size_0 rfl rfl ?_
  refine r_get C 0 2 uX1 rfl rfl (by decide) w_1_51 rfl dX1_size_1 ?_
  exact RT.1 _ _ _ _ _ dX1_size_4 rfl rfl (rd_i rfl) rfl
set_option maxRecDepth 100000 in
set_option maxHeartbeats 1000000 in
theorem c_X5_requireNight {l : Launch} {E : Ev} {n : Nat} (hn : n < 20) : Cr l E yX5_requireNight cX5_requireNight 1 none 6 90 [.int (nI n)] [] none := by
  refine ct_of (by decide +kernel) (Nat.le_of_ble_eq_true rfl) (fun ω C RT => ?_)
  show ω [] [(0, .int (nI n))] [] 0
  refine r_iload_n C (i := 0) 0 dX5_requireNight_0 rfl rfl ?_
  refine r_readS (rest := []) C (c_X5_hasNight (i := n) (hi := (by omega))) lk_X5_hasNight w_2_6 [] dX5_requireNight_1 rfl rfl rfl ⟨by decide, by decide⟩ (Nat.le_of_ble_eq_true rfl) (st' := [.int (bP (n < 20))]) rfl ?_
  refine r_if_neT C (y := 0) 18 dX5_requireNight_4 (by decide) (z_neB.mpr (by omega)) ?_
  exact RT.2.2.1 _ _ _ dX5_requireNight_18 rfl (rd_v) rfl
set_option maxRecDepth 100000 in
set_option maxHeartbeats 1000000 in
theorem c_X5_requirePart {l : Launch} {E : Ev} {hB b1 b2 b3 b4 b5 b6 b7 b8 b9 b10 : Nat} {c1 : Nat} {f : Nat → Int32} {σ : Sg} (hR : RepC σ f) (hW : Wf σ) {p : Nat} (hx : p < sP σ) : Cr l E yX5_requirePart cX5_requirePart 2 none 6 90 [.ref hB, .int (nI p)] [(hB, .inr (5, [.ref b1, .ref b2, .ref b3, .ref b4, .ref b5, .ref b6, .ref b7, .ref b8, .ref b9, .ref b10])), (b1, .inr (4, [.ref c1])), (c1, .inl (eI E, 265, .inl f))] none := by
  have hwP := hW.P
  have hwA := hW.A
  have hwS := hW.S
  refine ct_of (by decide +kernel) (Nat.le_of_ble_eq_true rfl) (fun ω C RT => ?_)
  show ω [(hB, .inr (5, [.ref b1, .ref b2, .ref b3, .ref b4, .ref b5, .ref b6, .ref b7, .ref b8, .ref b9, .ref b10])), (b1, .inr (4, [.ref c1])), (c1, .inl (eI E, 265, .inl f))] [(0, .ref hB), (1, .int (nI p))] [] 0
  refine r_aload_n C (i := 0) 0 dX5_requirePart_0 rfl rfl ?_
  refine r_get C 0 0 uX5 rfl rfl (by decide) w_1_128 rfl dX5_requirePart_1 ?_
  refine r_iload_n C (i := 1) 1 dX5_requirePart_4 rfl rfl ?_
  refine r_readV (rest := []) C (c_X4_hasPart (h0 := b1) (q1 := c1) (f := f) (σ := σ) (p := p) (hR := hR) (hW := hW) (hp := (by omega))) lk_X4_hasPart w_3_187 [1, 2] rfl dX5_requirePart_5 rfl rfl rfl rfl ⟨by decide, by decide⟩ (Nat.le_of_ble_eq_true rfl) (st' := [.int (bP (p < sP σ))]) rfl ?_
  refine r_if_neT C (y := 0) 22 dX5_requirePart_8 (by decide) (z_neB.mpr (by omega)) ?_
  exact RT.2.2.1 _ _ _ dX5_requirePart_22 rfl (rd_v) rfl
set_option maxRecDepth 100000 in
set_option maxHeartbeats 1000000 in
theorem c_X5_requireActor {l : Launch} {E : Ev} {hB b1 b2 b3 b4 b5 b6 b7 b8 b9 b10 : Nat} {c1 : Nat} {f : Nat → Int32} {σ : Sg} (hR : RepC σ f) (hW : Wf σ) {a : Nat} (hx : a < sA σ) : Cr l E yX5_requireActor cX5_requireActor 2 none 6 90 [.ref hB, .int (nI a)] [(hB, .inr (5, [.ref b1, .ref b2, .ref b3, .ref b4, .ref b5, .ref b6, .ref b7, .ref b8, .ref b9, .ref b10])), (b1, .inr (4, [.ref c1])), (c1, .inl (eI E, 265, .inl f))] none := by
  have hwP := hW.P
  have hwA := hW.A
  have hwS := hW.S
  refine ct_of (by decide +kernel) (Nat.le_of_ble_eq_true rfl) (fun ω C RT => ?_)
  show ω [(hB, .inr (5, [.ref b1, .ref b2, .ref b3, .ref b4, .ref b5, .ref b6, .ref b7, .ref b8, .ref b9, .ref b10])), (b1, .inr (4, [.ref c1])), (c1, .inl (eI E, 265, .inl f))] [(0, .ref hB), (1, .int (nI a))] [] 0
  refine r_aload_n C (i := 0) 0 dX5_requireActor_0 rfl rfl ?_
  refine r_get C 0 0 uX5 rfl rfl (by decide) w_1_128 rfl dX5_requireActor_1 ?_
  refine r_iload_n C (i := 1) 1 dX5_requireActor_4 rfl rfl ?_
  refine r_readV (rest := []) C (c_X4_hasActor (h0 := b1) (q1 := c1) (f := f) (σ := σ) (p := a) (hR := hR) (hW := hW) (hp := (by omega))) lk_X4_hasActor w_1_171 [1, 2] rfl dX5_requireActor_5 rfl rfl rfl rfl ⟨by decide, by decide⟩ (Nat.le_of_ble_eq_true rfl) (st' := [.int (bP (a < sA σ))]) rfl ?_
  refine r_if_neT C (y := 0) 22 dX5_requireActor_8 (by decide) (z_neB.mpr (by omega)) ?_
  exact RT.2.2.1 _ _ _ dX5_requireActor_22 rfl (rd_v) rfl
set_option maxRecDepth 100000 in
set_option maxHeartbeats 1000000 in
theorem c_X5_requireSlip {l : Launch} {E : Ev} {hB b1 b2 b3 b4 b5 b6 b7 b8 b9 b10 : Nat} {c1 : Nat} {f : Nat → Int32} {σ : Sg} (hR : RepC σ f) (hW : Wf σ) {k : Nat} (hx : k < sS σ) : Cr l E yX5_requireSlip cX5_requireSlip 2 none 6 90 [.ref hB, .int (nI k)] [(hB, .inr (5, [.ref b1, .ref b2, .ref b3, .ref b4, .ref b5, .ref b6, .ref b7, .ref b8, .ref b9, .ref b10])), (b1, .inr (4, [.ref c1])), (c1, .inl (eI E, 265, .inl f))] none := by
  have hwP := hW.P
  have hwA := hW.A
  have hwS := hW.S
  refine ct_of (by decide +kernel) (Nat.le_of_ble_eq_true rfl) (fun ω C RT => ?_)
  show ω [(hB, .inr (5, [.ref b1, .ref b2, .ref b3, .ref b4, .ref b5, .ref b6, .ref b7, .ref b8, .ref b9, .ref b10])), (b1, .inr (4, [.ref c1])), (c1, .inl (eI E, 265, .inl f))] [(0, .ref hB), (1, .int (nI k))] [] 0
  refine r_aload_n C (i := 0) 0 dX5_requireSlip_0 rfl rfl ?_
  refine r_get C 0 0 uX5 rfl rfl (by decide) w_1_128 rfl dX5_requireSlip_1 ?_
  refine r_iload_n C (i := 1) 1 dX5_requireSlip_4 rfl rfl ?_
  refine r_readV (rest := []) C (c_X4_hasSlip (h0 := b1) (q1 := c1) (f := f) (σ := σ) (p := k) (hR := hR) (hW := hW) (hp := (by omega))) lk_X4_hasSlip w_4_37 [1, 2] rfl dX5_requireSlip_5 rfl rfl rfl rfl ⟨by decide, by decide⟩ (Nat.le_of_ble_eq_true rfl) (st' := [.int (bP (k < sS σ))]) rfl ?_
  refine r_if_neT C (y := 0) 22 dX5_requireSlip_8 (by decide) (z_neB.mpr (by omega)) ?_
  exact RT.2.2.1 _ _ _ dX5_requireSlip_22 rfl (rd_v) rfl
set_option maxRecDepth 100000 in
set_option maxHeartbeats 1000000 in
theorem c_X5_requireSetting {l : Launch} {E : Ev} {w : Nat} (hw : w < 2) : Cr l E yX5_requireSetting cX5_requireSetting 1 none 6 90 [.int (nI w)] [] none := by
  refine ct_of (by decide +kernel) (Nat.le_of_ble_eq_true rfl) (fun ω C RT => ?_)
  show ω [] [(0, .int (nI w))] [] 0
  refine r_iload_n C (i := 0) 0 dX5_requireSetting_0 rfl rfl ?_
  refine r_if_ltF C (y := 0) (tgt := 9) dX5_requireSetting_1 (by decide) (fun z => ((by omega) : ¬ (w < 0)) ((z_ltN (by omega)).mp z)) ?_
  refine r_iload_n C (i := 0) 0 dX5_requireSetting_4 rfl rfl ?_
  refine r_iconst C dX5_requireSetting_5 ki_2 ?_
  refine r_icmp_ltT C 20 dX5_requireSetting_6 (by decide) ((c_ltNN (by omega) (by omega)).mpr (by omega)) ?_
  exact RT.2.2.1 _ _ _ dX5_requireSetting_20 rfl (rd_v) rfl
set_option maxRecDepth 100000 in
set_option maxHeartbeats 1000000 in
theorem c_X5_requireSlot {l : Launch} {E : Ev} {w : Nat} (hw : w < 2) : Cr l E yX5_requireSlot cX5_requireSlot 1 none 6 90 [.int (nI w)] [] none := by
  refine ct_of (by decide +kernel) (Nat.le_of_ble_eq_true rfl) (fun ω C RT => ?_)
  show ω [] [(0, .int (nI w))] [] 0
  refine r_iload_n C (i := 0) 0 dX5_requireSlot_0 rfl rfl ?_
  refine r_if_ltF C (y := 0) (tgt := 9) dX5_requireSlot_1 (by decide) (fun z => ((by omega) : ¬ (w < 0)) ((z_ltN (by omega)).mp z)) ?_
  refine r_iload_n C (i := 0) 0 dX5_requireSlot_4 rfl rfl ?_
  refine r_iconst C dX5_requireSlot_5 ki_2 ?_
  refine r_icmp_ltT C 20 dX5_requireSlot_6 (by decide) ((c_ltNN (by omega) (by omega)).mpr (by omega)) ?_
  exact RT.2.2.1 _ _ _ dX5_requireSlot_20 rfl (rd_v) rfl
set_option maxRecDepth 100000 in
set_option maxHeartbeats 1000000 in
theorem c_X5_about__0 {l : Launch} {E : Ev} {hB b1 b2 b3 b4 b5 b6 b7 b8 b9 b10 : Nat} {c1 : Nat} {f : Nat → Int32} {σ : Sg} (hR : RepC σ f) (hW : Wf σ) : Cr l E yX5_about cX5_about 2 (some FieldType.int) 6 117 [.ref hB, .int (nI 0)] [(hB, .inr (5, [.ref b1, .ref b2, .ref b3, .ref b4, .ref b5, .ref b6, .ref b7, .ref b8, .ref b9, .ref b10])), (b1, .inr (4, [.ref c1])), (c1, .inl (eI E, 265, .inl f))] (some (.int (nI (sP σ)))) := by
  have hwP := hW.P
  have hwA := hW.A
  have hwS := hW.S
  refine ct_of (by decide +kernel) (Nat.le_of_ble_eq_true rfl) (fun ω C RT => ?_)
  show ω [(hB, .inr (5, [.ref b1, .ref b2, .ref b3, .ref b4, .ref b5, .ref b6, .ref b7, .ref b8, .ref b9, .ref b10])), (b1, .inr (4, [.ref c1])), (c1, .inl (eI E, 265, .inl f))] [(0, .ref hB), (1, .int (nI 0))] [] 0
  refine r_iload_n C (i := 1) 1 dX5_about_0 rfl rfl ?_
  refine r_tabIn (off := 43) C 44 dX5_about_1 (by decide) (by decide) (by decide) (by decide) ?_
  refine r_aload_n C (i := 0) 0 dX5_about_44 rfl rfl ?_
  refine r_get C 0 0 uX5 rfl rfl (by decide) w_1_128 rfl dX5_about_45 ?_
  refine r_readV (rest := []) C (c_X4_parts (h0 := b1) (q1 := c1) (f := f) (σ := σ) (hR := hR) (hW := hW)) lk_X4_parts w_3_36 [1, 2] rfl dX5_about_48 rfl rfl rfl rfl ⟨by decide, by decide⟩ (Nat.le_of_ble_eq_true rfl) (st' := [.int (nI (sP σ))]) rfl ?_
  exact RT.1 _ _ _ _ _ dX5_about_51 rfl rfl (rd_i rfl) rfl
set_option maxRecDepth 100000 in
set_option maxHeartbeats 1000000 in
theorem c_X5_about__1 {l : Launch} {E : Ev} {hB b1 b2 b3 b4 b5 b6 b7 b8 b9 b10 : Nat} {c1 : Nat} {f : Nat → Int32} {σ : Sg} (hR : RepC σ f) (hW : Wf σ) : Cr l E yX5_about cX5_about 2 (some FieldType.int) 6 117 [.ref hB, .int (nI 1)] [(hB, .inr (5, [.ref b1, .ref b2, .ref b3, .ref b4, .ref b5, .ref b6, .ref b7, .ref b8, .ref b9, .ref b10])), (b1, .inr (4, [.ref c1])), (c1, .inl (eI E, 265, .inl f))] (some (.int (nI (sA σ)))) := by
  have hwP := hW.P
  have hwA := hW.A
  have hwS := hW.S
  refine ct_of (by decide +kernel) (Nat.le_of_ble_eq_true rfl) (fun ω C RT => ?_)
  show ω [(hB, .inr (5, [.ref b1, .ref b2, .ref b3, .ref b4, .ref b5, .ref b6, .ref b7, .ref b8, .ref b9, .ref b10])), (b1, .inr (4, [.ref c1])), (c1, .inl (eI E, 265, .inl f))] [(0, .ref hB), (1, .int (nI 1))] [] 0
  refine r_iload_n C (i := 1) 1 dX5_about_0 rfl rfl ?_
  refine r_tabIn (off := 51) C 52 dX5_about_1 (by decide) (by decide) (by decide) (by decide) ?_
  refine r_aload_n C (i := 0) 0 dX5_about_52 rfl rfl ?_
  refine r_get C 0 0 uX5 rfl rfl (by decide) w_1_128 rfl dX5_about_53 ?_
  refine r_readV (rest := []) C (c_X4_actors (h0 := b1) (q1 := c1) (f := f) (σ := σ) (hR := hR) (hW := hW)) lk_X4_actors w_3_40 [1, 2] rfl dX5_about_56 rfl rfl rfl rfl ⟨by decide, by decide⟩ (Nat.le_of_ble_eq_true rfl) (st' := [.int (nI (sA σ))]) rfl ?_
  exact RT.1 _ _ _ _ _ dX5_about_59 rfl rfl (rd_i rfl) rfl
set_option maxRecDepth 100000 in
set_option maxHeartbeats 1000000 in
theorem c_X5_about__2 {l : Launch} {E : Ev} {hB b1 b2 b3 b4 b5 b6 b7 b8 b9 b10 : Nat} {c1 : Nat} {f : Nat → Int32} {σ : Sg} (hR : RepC σ f) (hW : Wf σ) : Cr l E yX5_about cX5_about 2 (some FieldType.int) 6 117 [.ref hB, .int (nI 2)] [(hB, .inr (5, [.ref b1, .ref b2, .ref b3, .ref b4, .ref b5, .ref b6, .ref b7, .ref b8, .ref b9, .ref b10])), (b1, .inr (4, [.ref c1])), (c1, .inl (eI E, 265, .inl f))] (some (.int (nI (sS σ)))) := by
  have hwP := hW.P
  have hwA := hW.A
  have hwS := hW.S
  refine ct_of (by decide +kernel) (Nat.le_of_ble_eq_true rfl) (fun ω C RT => ?_)
  show ω [(hB, .inr (5, [.ref b1, .ref b2, .ref b3, .ref b4, .ref b5, .ref b6, .ref b7, .ref b8, .ref b9, .ref b10])), (b1, .inr (4, [.ref c1])), (c1, .inl (eI E, 265, .inl f))] [(0, .ref hB), (1, .int (nI 2))] [] 0
  refine r_iload_n C (i := 1) 1 dX5_about_0 rfl rfl ?_
  refine r_tabIn (off := 59) C 60 dX5_about_1 (by decide) (by decide) (by decide) (by decide) ?_
  refine r_aload_n C (i := 0) 0 dX5_about_60 rfl rfl ?_
  refine r_get C 0 0 uX5 rfl rfl (by decide) w_1_128 rfl dX5_about_61 ?_
  refine r_readV (rest := []) C (c_X4_slips (h0 := b1) (q1 := c1) (f := f) (σ := σ) (hR := hR) (hW := hW)) lk_X4_slips w_3_44 [1, 2] rfl dX5_about_64 rfl rfl rfl rfl ⟨by decide, by decide⟩ (Nat.le_of_ble_eq_true rfl) (st' := [.int (nI (sS σ))]) rfl ?_
  exact RT.1 _ _ _ _ _ dX5_about_67 rfl rfl (rd_i rfl) rfl
set_option maxRecDepth 100000 in
set_option maxHeartbeats 1000000 in
theorem c_X5_played {l : Launch} {E : Ev} {hB b1 b2 b3 b4 b5 b6 b7 b8 b9 b10 : Nat} {c1 : Nat} {f : Nat → Int32} {σ : Sg} (hR : RepC σ f) (hW : Wf σ) {e1 e2 e3 par fre pri sls drk pla tks : Nat} {t1 t2 t3 : Nat → Int32} {n p : Nat} (hn : n < 20) (hp : p < sP σ) : Ct l E yX5_played cX5_played 3 (some FieldType.int) 7 111 [.ref hB, .int (nI n), .int (nI p)] [(hB, .inr (5, [.ref b1, .ref b2, .ref b3, .ref b4, .ref b5, .ref b6, .ref b7, .ref b8, .ref b9, .ref b10])), (b1, .inr (4, [.ref c1])), (c1, .inl (eI E, 265, .inl f)), (b7, .inr (0, [.ref e1, .ref e2, .ref e3, .int (nI par), .int (nI fre), .int (nI pri), .int (nI sls), .int (nI drk), .int (nI pla), .int (nI tks)])), (e1, .inl (eI E, 6, .inl t1)), (e2, .inl (eI E, 6, .inl t2)), (e3, .inl (eI E, 6, .inl t3))] (fun v9 w9 => ∃ (par2 fre2 pri2 sls2 drk2 pla2 tks2 : Nat) (ta tb tc : Nat → Int32), v9 = some (.int (mI (pT σ n p))) ∧ w9 = [(hB, .inr (5, [.ref b1, .ref b2, .ref b3, .ref b4, .ref b5, .ref b6, .ref b7, .ref b8, .ref b9, .ref b10])), (b1, .inr (4, [.ref c1])), (c1, .inl (eI E, 265, .inl f)), (b7, .inr (0, [.ref e1, .ref e2, .ref e3, .int (nI par2), .int (nI fre2), .int (nI pri2), .int (nI sls2), .int (nI drk2), .int (nI pla2), .int (nI tks2)])), (e1, .inl (eI E, 6, .inl ta)), (e2, .inl (eI E, 6, .inl tb)), (e3, .inl (eI E, 6, .inl tc))]) := by
  have hwP := hW.P
  have hwA := hW.A
  have hwS := hW.S
  refine ct_of (by decide +kernel) (Nat.le_of_ble_eq_true rfl) (fun ω C RT => ?_)
  show ω [(hB, .inr (5, [.ref b1, .ref b2, .ref b3, .ref b4, .ref b5, .ref b6, .ref b7, .ref b8, .ref b9, .ref b10])), (b1, .inr (4, [.ref c1])), (c1, .inl (eI E, 265, .inl f)), (b7, .inr (0, [.ref e1, .ref e2, .ref e3, .int (nI par), .int (nI fre), .int (nI pri), .int (nI sls), .int (nI drk), .int (nI pla), .int (nI tks)])), (e1, .inl (eI E, 6, .inl t1)), (e2, .inl (eI E, 6, .inl t2)), (e3, .inl (eI E, 6, .inl t3))] [(0, .ref hB), (1, .int (nI n)), (2, .int (nI p))] [] 0
  refine r_iload_n C (i := 1) 1 dX5_played_0 rfl rfl ?_
  refine r_readS (rest := []) C (c_X5_requireNight (n := n) (hn := (by omega))) lk_X5_requireNight w_2_3 [] dX5_played_1 rfl rfl rfl ⟨by decide, by decide⟩ (Nat.le_of_ble_eq_true rfl) (st' := []) rfl ?_
  refine r_aload_n C (i := 0) 0 dX5_played_4 rfl rfl ?_
  refine r_iload_n C (i := 2) 2 dX5_played_5 rfl rfl ?_
  refine r_readV (rest := []) C (c_X5_requirePart (hB := hB) (b1 := b1) (b2 := b2) (b3 := b3) (b4 := b4) (b5 := b5) (b6 := b6) (b7 := b7) (b8 := b8) (b9 := b9) (b10 := b10) (c1 := c1) (f := f) (σ := σ) (p := p) (hR := hR) (hW := hW) (hx := (by omega))) lk_X5_requirePart w_3_183 [0, 1, 2] rfl dX5_played_6 rfl rfl rfl rfl ⟨by decide, by decide⟩ (Nat.le_of_ble_eq_true rfl) (st' := []) rfl ?_
  refine r_aload_n C (i := 0) 0 dX5_played_9 rfl rfl ?_
  refine r_get C 0 6 uX5 rfl rfl (by decide) w_1_134 rfl dX5_played_10 ?_
  refine r_aload_n C (i := 0) 0 dX5_played_13 rfl rfl ?_
  refine r_get C 0 0 uX5 rfl rfl (by decide) w_1_128 rfl dX5_played_14 ?_
  refine r_iload_n C (i := 1) 1 dX5_played_17 rfl rfl ?_
  refine r_callV (rest := []) C (c_X0_workOut (hE := b7) (e1 := e1) (e2 := e2) (e3 := e3) (par := par) (fre := fre) (pri := pri) (sls := sls) (drk := drk) (pla := pla) (tks := tks) (t1 := t1) (t2 := t2) (t3 := t3) (h0 := b1) (q1 := c1) (f := f) (σ := σ) (n := n) (hR := hR) (hW := hW) (hn := (by omega))) lk_X0_workOut w_3_145 [3, 4, 5, 6, 1, 2] rfl dX5_played_18 rfl rfl rfl rfl ⟨by decide, by decide⟩ (Nat.le_of_ble_eq_true rfl) ?_
  rintro _ _ ⟨par_1, fre_2, pri_3, sls_4, drk_5, pla_6, tks_7, ta_8, tb_9, tc_10, rfl, rfl, hEv_11⟩
  show ω [(hB, .inr (5, [.ref b1, .ref b2, .ref b3, .ref b4, .ref b5, .ref b6, .ref b7, .ref b8, .ref b9, .ref b10])), (b1, .inr (4, [.ref c1])), (c1, .inl (eI E, 265, .inl f)), (b7, .inr (0, [.ref e1, .ref e2, .ref e3, .int (nI par_1), .int (nI fre_2), .int (nI pri_3), .int (nI sls_4), .int (nI drk_5), .int (nI pla_6), .int (nI tks_7)])), (e1, .inl (eI E, 6, .inl ta_8)), (e2, .inl (eI E, 6, .inl tb_9)), (e3, .inl (eI E, 6, .inl tc_10))] [(0, .ref hB), (1, .int (nI n)), (2, .int (nI p))] [] 21
  refine r_aload_n C (i := 0) 0 dX5_played_21 rfl rfl ?_
  refine r_get C 0 6 uX5 rfl rfl (by decide) w_1_134 rfl dX5_played_22 ?_
  refine r_iload_n C (i := 2) 2 dX5_played_25 rfl rfl ?_
  refine r_readV (rest := []) C (c_X0_player (hE := b7) (e1 := e1) (e2 := e2) (e3 := e3) (par := par_1) (fre := fre_2) (pri := pri_3) (sls := sls_4) (drk := drk_5) (pla := pla_6) (tks := tks_7) (t1 := ta_8) (t2 := tb_9) (t3 := tc_10) (σ := σ) (n := n) (p := p) (hEv := hEv_11) (hW := hW) (hp := (by omega))) lk_X0_player w_3_189 [3, 4, 5, 6] rfl dX5_played_26 rfl rfl rfl rfl ⟨by decide, by decide⟩ (Nat.le_of_ble_eq_true rfl) (st' := [.int (mI (pT σ n p))]) rfl ?_
  exact RT.1 _ _ _ _ _ dX5_played_29 rfl rfl (⟨_, _, _, _, _, _, _, _, _, _, rfl, rfl⟩) rfl
set_option maxRecDepth 100000 in
set_option maxHeartbeats 1000000 in
theorem c_X5_bill__0 {l : Launch} {E : Ev} {hB b1 b2 b3 b4 b5 b6 b7 b8 b9 b10 : Nat} {c1 : Nat} {f : Nat → Int32} {σ : Sg} (hR : RepC σ f) (hW : Wf σ) {e1 e2 e3 par fre pri sls drk pla tks : Nat} {t1 t2 t3 : Nat → Int32} {n p : Nat} (hn : n < 20) (hp : p < sP σ) : Ct l E yX5_bill cX5_bill 4 (some FieldType.int) 7 111 [.ref hB, .int (nI n), .int (nI p), .int (nI 0)] [(hB, .inr (5, [.ref b1, .ref b2, .ref b3, .ref b4, .ref b5, .ref b6, .ref b7, .ref b8, .ref b9, .ref b10])), (b1, .inr (4, [.ref c1])), (c1, .inl (eI E, 265, .inl f)), (b7, .inr (0, [.ref e1, .ref e2, .ref e3, .int (nI par), .int (nI fre), .int (nI pri), .int (nI sls), .int (nI drk), .int (nI pla), .int (nI tks)])), (e1, .inl (eI E, 6, .inl t1)), (e2, .inl (eI E, 6, .inl t2)), (e3, .inl (eI E, 6, .inl t3))] (fun v9 w9 => ∃ (par2 fre2 pri2 sls2 drk2 pla2 tks2 : Nat) (ta tb tc : Nat → Int32), v9 = some (.int (mI (sR σ p n))) ∧ w9 = [(hB, .inr (5, [.ref b1, .ref b2, .ref b3, .ref b4, .ref b5, .ref b6, .ref b7, .ref b8, .ref b9, .ref b10])), (b1, .inr (4, [.ref c1])), (c1, .inl (eI E, 265, .inl f)), (b7, .inr (0, [.ref e1, .ref e2, .ref e3, .int (nI par2), .int (nI fre2), .int (nI pri2), .int (nI sls2), .int (nI drk2), .int (nI pla2), .int (nI tks2)])), (e1, .inl (eI E, 6, .inl ta)), (e2, .inl (eI E, 6, .inl tb)), (e3, .inl (eI E, 6, .inl tc))]) := by
  have hwP := hW.P
  have hwA := hW.A
  have hwS := hW.S
  refine ct_of (by decide +kernel) (Nat.le_of_ble_eq_true rfl) (fun ω C RT => ?_)
  show ω [(hB, .inr (5, [.ref b1, .ref b2, .ref b3, .ref b4, .ref b5, .ref b6, .ref b7, .ref b8, .ref b9, .ref b10])), (b1, .inr (4, [.ref c1])), (c1, .inl (eI E, 265, .inl f)), (b7, .inr (0, [.ref e1, .ref e2, .ref e3, .int (nI par), .int (nI fre), .int (nI pri), .int (nI sls), .int (nI drk), .int (nI pla), .int (nI tks)])), (e1, .inl (eI E, 6, .inl t1)), (e2, .inl (eI E, 6, .inl t2)), (e3, .inl (eI E, 6, .inl t3))] [(0, .ref hB), (1, .int (nI n)), (2, .int (nI p)), (3, .int (nI 0))] [] 0
  refine r_iload_n C (i := 1) 1 dX5_bill_0 rfl rfl ?_
  refine r_readS (rest := []) C (c_X5_requireNight (n := n) (hn := (by omega))) lk_X5_requireNight w_2_3 [] dX5_bill_1 rfl rfl rfl ⟨by decide, by decide⟩ (Nat.le_of_ble_eq_true rfl) (st' := []) rfl ?_
  refine r_aload_n C (i := 0) 0 dX5_bill_4 rfl rfl ?_
  refine r_iload_n C (i := 2) 2 dX5_bill_5 rfl rfl ?_
  refine r_readV (rest := []) C (c_X5_requirePart (hB := hB) (b1 := b1) (b2 := b2) (b3 := b3) (b4 := b4) (b5 := b5) (b6 := b6) (b7 := b7) (b8 := b8) (b9 := b9) (b10 := b10) (c1 := c1) (f := f) (σ := σ) (p := p) (hR := hR) (hW := hW) (hx := (by omega))) lk_X5_requirePart w_3_183 [0, 1, 2] rfl dX5_bill_6 rfl rfl rfl rfl ⟨by decide, by decide⟩ (Nat.le_of_ble_eq_true rfl) (st' := []) rfl ?_
  refine r_aload_n C (i := 0) 0 dX5_bill_9 rfl rfl ?_
  refine r_get C 0 6 uX5 rfl rfl (by decide) w_1_134 rfl dX5_bill_10 ?_
  refine r_aload_n C (i := 0) 0 dX5_bill_13 rfl rfl ?_
  refine r_get C 0 0 uX5 rfl rfl (by decide) w_1_128 rfl dX5_bill_14 ?_
  refine r_iload_n C (i := 1) 1 dX5_bill_17 rfl rfl ?_
  refine r_callV (rest := []) C (c_X0_workOut (hE := b7) (e1 := e1) (e2 := e2) (e3 := e3) (par := par) (fre := fre) (pri := pri) (sls := sls) (drk := drk) (pla := pla) (tks := tks) (t1 := t1) (t2 := t2) (t3 := t3) (h0 := b1) (q1 := c1) (f := f) (σ := σ) (n := n) (hR := hR) (hW := hW) (hn := (by omega))) lk_X0_workOut w_3_145 [3, 4, 5, 6, 1, 2] rfl dX5_bill_18 rfl rfl rfl rfl ⟨by decide, by decide⟩ (Nat.le_of_ble_eq_true rfl) ?_
  rintro _ _ ⟨par_1, fre_2, pri_3, sls_4, drk_5, pla_6, tks_7, ta_8, tb_9, tc_10, rfl, rfl, hEv_11⟩
  show ω [(hB, .inr (5, [.ref b1, .ref b2, .ref b3, .ref b4, .ref b5, .ref b6, .ref b7, .ref b8, .ref b9, .ref b10])), (b1, .inr (4, [.ref c1])), (c1, .inl (eI E, 265, .inl f)), (b7, .inr (0, [.ref e1, .ref e2, .ref e3, .int (nI par_1), .int (nI fre_2), .int (nI pri_3), .int (nI sls_4), .int (nI drk_5), .int (nI pla_6), .int (nI tks_7)])), (e1, .inl (eI E, 6, .inl ta_8)), (e2, .inl (eI E, 6, .inl tb_9)), (e3, .inl (eI E, 6, .inl tc_10))] [(0, .ref hB), (1, .int (nI n)), (2, .int (nI p)), (3, .int (nI 0))] [] 21
  refine r_iload_n C (i := 3) 3 dX5_bill_21 rfl rfl ?_
  refine r_tabIn (off := 30) C 52 dX5_bill_22 (by decide) (by decide) (by decide) (by decide) ?_
  refine r_aload_n C (i := 0) 0 dX5_bill_52 rfl rfl ?_
  refine r_get C 0 0 uX5 rfl rfl (by decide) w_1_128 rfl dX5_bill_53 ?_
  refine r_iload_n C (i := 2) 2 dX5_bill_56 rfl rfl ?_
  refine r_iload_n C (i := 1) 1 dX5_bill_57 rfl rfl ?_
  refine r_readV (rest := []) C (c_X4_principal (h0 := b1) (q1 := c1) (f := f) (σ := σ) (p := p) (n := n) (hR := hR) (hW := hW) (hp := (by omega)) (hn := (by omega))) lk_X4_principal w_3_197 [1, 2] rfl dX5_bill_58 rfl rfl rfl rfl ⟨by decide, by decide⟩ (Nat.le_of_ble_eq_true rfl) (st' := [.int (mI (sR σ p n))]) rfl ?_
  exact RT.1 _ _ _ _ _ dX5_bill_61 rfl rfl (⟨_, _, _, _, _, _, _, _, _, _, rfl, rfl⟩) rfl
set_option maxRecDepth 100000 in
set_option maxHeartbeats 1000000 in
theorem c_X5_bill__1 {l : Launch} {E : Ev} {hB b1 b2 b3 b4 b5 b6 b7 b8 b9 b10 : Nat} {c1 : Nat} {f : Nat → Int32} {σ : Sg} (hR : RepC σ f) (hW : Wf σ) {e1 e2 e3 par fre pri sls drk pla tks : Nat} {t1 t2 t3 : Nat → Int32} {n p : Nat} (hn : n < 20) (hp : p < sP σ) : Ct l E yX5_bill cX5_bill 4 (some FieldType.int) 7 111 [.ref hB, .int (nI n), .int (nI p), .int (nI 1)] [(hB, .inr (5, [.ref b1, .ref b2, .ref b3, .ref b4, .ref b5, .ref b6, .ref b7, .ref b8, .ref b9, .ref b10])), (b1, .inr (4, [.ref c1])), (c1, .inl (eI E, 265, .inl f)), (b7, .inr (0, [.ref e1, .ref e2, .ref e3, .int (nI par), .int (nI fre), .int (nI pri), .int (nI sls), .int (nI drk), .int (nI pla), .int (nI tks)])), (e1, .inl (eI E, 6, .inl t1)), (e2, .inl (eI E, 6, .inl t2)), (e3, .inl (eI E, 6, .inl t3))] (fun v9 w9 => ∃ (par2 fre2 pri2 sls2 drk2 pla2 tks2 : Nat) (ta tb tc : Nat → Int32), v9 = some (.int (mI (T σ n p))) ∧ w9 = [(hB, .inr (5, [.ref b1, .ref b2, .ref b3, .ref b4, .ref b5, .ref b6, .ref b7, .ref b8, .ref b9, .ref b10])), (b1, .inr (4, [.ref c1])), (c1, .inl (eI E, 265, .inl f)), (b7, .inr (0, [.ref e1, .ref e2, .ref e3, .int (nI par2), .int (nI fre2), .int (nI pri2), .int (nI sls2), .int (nI drk2), .int (nI pla2), .int (nI tks2)])), (e1, .inl (eI E, 6, .inl ta)), (e2, .inl (eI E, 6, .inl tb)), (e3, .inl (eI E, 6, .inl tc))]) := by
  have hwP := hW.P
  have hwA := hW.A
  have hwS := hW.S
  refine ct_of (by decide +kernel) (Nat.le_of_ble_eq_true rfl) (fun ω C RT => ?_)
  show ω [(hB, .inr (5, [.ref b1, .ref b2, .ref b3, .ref b4, .ref b5, .ref b6, .ref b7, .ref b8, .ref b9, .ref b10])), (b1, .inr (4, [.ref c1])), (c1, .inl (eI E, 265, .inl f)), (b7, .inr (0, [.ref e1, .ref e2, .ref e3, .int (nI par), .int (nI fre), .int (nI pri), .int (nI sls), .int (nI drk), .int (nI pla), .int (nI tks)])), (e1, .inl (eI E, 6, .inl t1)), (e2, .inl (eI E, 6, .inl t2)), (e3, .inl (eI E, 6, .inl t3))] [(0, .ref hB), (1, .int (nI n)), (2, .int (nI p)), (3, .int (nI 1))] [] 0
  refine r_iload_n C (i := 1) 1 dX5_bill_0 rfl rfl ?_
  refine r_readS (rest := []) C (c_X5_requireNight (n := n) (hn := (by omega))) lk_X5_requireNight w_2_3 [] dX5_bill_1 rfl rfl rfl ⟨by decide, by decide⟩ (Nat.le_of_ble_eq_true rfl) (st' := []) rfl ?_
  refine r_aload_n C (i := 0) 0 dX5_bill_4 rfl rfl ?_
  refine r_iload_n C (i := 2) 2 dX5_bill_5 rfl rfl ?_
  refine r_readV (rest := []) C (c_X5_requirePart (hB := hB) (b1 := b1) (b2 := b2) (b3 := b3) (b4 := b4) (b5 := b5) (b6 := b6) (b7 := b7) (b8 := b8) (b9 := b9) (b10 := b10) (c1 := c1) (f := f) (σ := σ) (p := p) (hR := hR) (hW := hW) (hx := (by omega))) lk_X5_requirePart w_3_183 [0, 1, 2] rfl dX5_bill_6 rfl rfl rfl rfl ⟨by decide, by decide⟩ (Nat.le_of_ble_eq_true rfl) (st' := []) rfl ?_
  refine r_aload_n C (i := 0) 0 dX5_bill_9 rfl rfl ?_
  refine r_get C 0 6 uX5 rfl rfl (by decide) w_1_134 rfl dX5_bill_10 ?_
  refine r_aload_n C (i := 0) 0 dX5_bill_13 rfl rfl ?_
  refine r_get C 0 0 uX5 rfl rfl (by decide) w_1_128 rfl dX5_bill_14 ?_
  refine r_iload_n C (i := 1) 1 dX5_bill_17 rfl rfl ?_
  refine r_callV (rest := []) C (c_X0_workOut (hE := b7) (e1 := e1) (e2 := e2) (e3 := e3) (par := par) (fre := fre) (pri := pri) (sls := sls) (drk := drk) (pla := pla) (tks := tks) (t1 := t1) (t2 := t2) (t3 := t3) (h0 := b1) (q1 := c1) (f := f) (σ := σ) (n := n) (hR := hR) (hW := hW) (hn := (by omega))) lk_X0_workOut w_3_145 [3, 4, 5, 6, 1, 2] rfl dX5_bill_18 rfl rfl rfl rfl ⟨by decide, by decide⟩ (Nat.le_of_ble_eq_true rfl) ?_
  rintro _ _ ⟨par_1, fre_2, pri_3, sls_4, drk_5, pla_6, tks_7, ta_8, tb_9, tc_10, rfl, rfl, hEv_11⟩
  show ω [(hB, .inr (5, [.ref b1, .ref b2, .ref b3, .ref b4, .ref b5, .ref b6, .ref b7, .ref b8, .ref b9, .ref b10])), (b1, .inr (4, [.ref c1])), (c1, .inl (eI E, 265, .inl f)), (b7, .inr (0, [.ref e1, .ref e2, .ref e3, .int (nI par_1), .int (nI fre_2), .int (nI pri_3), .int (nI sls_4), .int (nI drk_5), .int (nI pla_6), .int (nI tks_7)])), (e1, .inl (eI E, 6, .inl ta_8)), (e2, .inl (eI E, 6, .inl tb_9)), (e3, .inl (eI E, 6, .inl tc_10))] [(0, .ref hB), (1, .int (nI n)), (2, .int (nI p)), (3, .int (nI 1))] [] 21
  refine r_iload_n C (i := 3) 3 dX5_bill_21 rfl rfl ?_
  refine r_tabIn (off := 40) C 62 dX5_bill_22 (by decide) (by decide) (by decide) (by decide) ?_
  refine r_aload_n C (i := 0) 0 dX5_bill_62 rfl rfl ?_
  refine r_get C 0 6 uX5 rfl rfl (by decide) w_1_134 rfl dX5_bill_63 ?_
  refine r_iload_n C (i := 2) 2 dX5_bill_66 rfl rfl ?_
  refine r_readV (rest := []) C (c_X0_takenFor (hE := b7) (e1 := e1) (e2 := e2) (e3 := e3) (par := par_1) (fre := fre_2) (pri := pri_3) (sls := sls_4) (drk := drk_5) (pla := pla_6) (tks := tks_7) (t1 := ta_8) (t2 := tb_9) (t3 := tc_10) (σ := σ) (n := n) (p := p) (hEv := hEv_11) (hW := hW) (hp := (by omega))) lk_X0_takenFor w_3_198 [3, 4, 5, 6] rfl dX5_bill_67 rfl rfl rfl rfl ⟨by decide, by decide⟩ (Nat.le_of_ble_eq_true rfl) (st' := [.int (mI (T σ n p))]) rfl ?_
  exact RT.1 _ _ _ _ _ dX5_bill_70 rfl rfl (⟨_, _, _, _, _, _, _, _, _, _, rfl, rfl⟩) rfl
set_option maxRecDepth 100000 in
set_option maxHeartbeats 1000000 in
theorem c_X5_bill__2 {l : Launch} {E : Ev} {hB b1 b2 b3 b4 b5 b6 b7 b8 b9 b10 : Nat} {c1 : Nat} {f : Nat → Int32} {σ : Sg} (hR : RepC σ f) (hW : Wf σ) {e1 e2 e3 par fre pri sls drk pla tks : Nat} {t1 t2 t3 : Nat → Int32} {n p : Nat} (hn : n < 20) (hp : p < sP σ) : Ct l E yX5_bill cX5_bill 4 (some FieldType.int) 7 111 [.ref hB, .int (nI n), .int (nI p), .int (nI 2)] [(hB, .inr (5, [.ref b1, .ref b2, .ref b3, .ref b4, .ref b5, .ref b6, .ref b7, .ref b8, .ref b9, .ref b10])), (b1, .inr (4, [.ref c1])), (c1, .inl (eI E, 265, .inl f)), (b7, .inr (0, [.ref e1, .ref e2, .ref e3, .int (nI par), .int (nI fre), .int (nI pri), .int (nI sls), .int (nI drk), .int (nI pla), .int (nI tks)])), (e1, .inl (eI E, 6, .inl t1)), (e2, .inl (eI E, 6, .inl t2)), (e3, .inl (eI E, 6, .inl t3))] (fun v9 w9 => ∃ (par2 fre2 pri2 sls2 drk2 pla2 tks2 : Nat) (ta tb tc : Nat → Int32), v9 = some (.int (nI (Wy σ n p))) ∧ w9 = [(hB, .inr (5, [.ref b1, .ref b2, .ref b3, .ref b4, .ref b5, .ref b6, .ref b7, .ref b8, .ref b9, .ref b10])), (b1, .inr (4, [.ref c1])), (c1, .inl (eI E, 265, .inl f)), (b7, .inr (0, [.ref e1, .ref e2, .ref e3, .int (nI par2), .int (nI fre2), .int (nI pri2), .int (nI sls2), .int (nI drk2), .int (nI pla2), .int (nI tks2)])), (e1, .inl (eI E, 6, .inl ta)), (e2, .inl (eI E, 6, .inl tb)), (e3, .inl (eI E, 6, .inl tc))]) := by
  have hwP := hW.P
  have hwA := hW.A
  have hwS := hW.S
  refine ct_of (by decide +kernel) (Nat.le_of_ble_eq_true rfl) (fun ω C RT => ?_)
  show ω [(hB, .inr (5, [.ref b1, .ref b2, .ref b3, .ref b4, .ref b5, .ref b6, .ref b7, .ref b8, .ref b9, .ref b10])), (b1, .inr (4, [.ref c1])), (c1, .inl (eI E, 265, .inl f)), (b7, .inr (0, [.ref e1, .ref e2, .ref e3, .int (nI par), .int (nI fre), .int (nI pri), .int (nI sls), .int (nI drk), .int (nI pla), .int (nI tks)])), (e1, .inl (eI E, 6, .inl t1)), (e2, .inl (eI E, 6, .inl t2)), (e3, .inl (eI E, 6, .inl t3))] [(0, .ref hB), (1, .int (nI n)), (2, .int (nI p)), (3, .int (nI 2))] [] 0
  refine r_iload_n C (i := 1) 1 dX5_bill_0 rfl rfl ?_
  refine r_readS (rest := []) C (c_X5_requireNight (n := n) (hn := (by omega))) lk_X5_requireNight w_2_3 [] dX5_bill_1 rfl rfl rfl ⟨by decide, by decide⟩ (Nat.le_of_ble_eq_true rfl) (st' := []) rfl ?_
  refine r_aload_n C (i := 0) 0 dX5_bill_4 rfl rfl ?_
  refine r_iload_n C (i := 2) 2 dX5_bill_5 rfl rfl ?_
  refine r_readV (rest := []) C (c_X5_requirePart (hB := hB) (b1 := b1) (b2 := b2) (b3 := b3) (b4 := b4) (b5 := b5) (b6 := b6) (b7 := b7) (b8 := b8) (b9 := b9) (b10 := b10) (c1 := c1) (f := f) (σ := σ) (p := p) (hR := hR) (hW := hW) (hx := (by omega))) lk_X5_requirePart w_3_183 [0, 1, 2] rfl dX5_bill_6 rfl rfl rfl rfl ⟨by decide, by decide⟩ (Nat.le_of_ble_eq_true rfl) (st' := []) rfl ?_
  refine r_aload_n C (i := 0) 0 dX5_bill_9 rfl rfl ?_
  refine r_get C 0 6 uX5 rfl rfl (by decide) w_1_134 rfl dX5_bill_10 ?_
  refine r_aload_n C (i := 0) 0 dX5_bill_13 rfl rfl ?_
  refine r_get C 0 0 uX5 rfl rfl (by decide) w_1_128 rfl dX5_bill_14 ?_
  refine r_iload_n C (i := 1) 1 dX5_bill_17 rfl rfl ?_
  refine r_callV (rest := []) C (c_X0_workOut (hE := b7) (e1 := e1) (e2 := e2) (e3 := e3) (par := par) (fre := fre) (pri := pri) (sls := sls) (drk := drk) (pla := pla) (tks := tks) (t1 := t1) (t2 := t2) (t3 := t3) (h0 := b1) (q1 := c1) (f := f) (σ := σ) (n := n) (hR := hR) (hW := hW) (hn := (by omega))) lk_X0_workOut w_3_145 [3, 4, 5, 6, 1, 2] rfl dX5_bill_18 rfl rfl rfl rfl ⟨by decide, by decide⟩ (Nat.le_of_ble_eq_true rfl) ?_
  rintro _ _ ⟨par_1, fre_2, pri_3, sls_4, drk_5, pla_6, tks_7, ta_8, tb_9, tc_10, rfl, rfl, hEv_11⟩
  show ω [(hB, .inr (5, [.ref b1, .ref b2, .ref b3, .ref b4, .ref b5, .ref b6, .ref b7, .ref b8, .ref b9, .ref b10])), (b1, .inr (4, [.ref c1])), (c1, .inl (eI E, 265, .inl f)), (b7, .inr (0, [.ref e1, .ref e2, .ref e3, .int (nI par_1), .int (nI fre_2), .int (nI pri_3), .int (nI sls_4), .int (nI drk_5), .int (nI pla_6), .int (nI tks_7)])), (e1, .inl (eI E, 6, .inl ta_8)), (e2, .inl (eI E, 6, .inl tb_9)), (e3, .inl (eI E, 6, .inl tc_10))] [(0, .ref hB), (1, .int (nI n)), (2, .int (nI p)), (3, .int (nI 2))] [] 21
  refine r_iload_n C (i := 3) 3 dX5_bill_21 rfl rfl ?_
  refine r_tabIn (off := 49) C 71 dX5_bill_22 (by decide) (by decide) (by decide) (by decide) ?_
  refine r_aload_n C (i := 0) 0 dX5_bill_71 rfl rfl ?_
  refine r_get C 0 6 uX5 rfl rfl (by decide) w_1_134 rfl dX5_bill_72 ?_
  refine r_iload_n C (i := 2) 2 dX5_bill_75 rfl rfl ?_
  refine r_readV (rest := []) C (c_X0_reason (hE := b7) (e1 := e1) (e2 := e2) (e3 := e3) (par := par_1) (fre := fre_2) (pri := pri_3) (sls := sls_4) (drk := drk_5) (pla := pla_6) (tks := tks_7) (t1 := ta_8) (t2 := tb_9) (t3 := tc_10) (σ := σ) (n := n) (p := p) (hEv := hEv_11) (hW := hW) (hp := (by omega))) lk_X0_reason w_3_199 [3, 4, 5, 6] rfl dX5_bill_76 rfl rfl rfl rfl ⟨by decide, by decide⟩ (Nat.le_of_ble_eq_true rfl) (st' := [.int (nI (Wy σ n p))]) rfl ?_
  exact RT.1 _ _ _ _ _ dX5_bill_79 rfl rfl (⟨_, _, _, _, _, _, _, _, _, _, rfl, rfl⟩) rfl
set_option maxRecDepth 100000 in
set_option maxHeartbeats 1000000 in
theorem c_X5_bill__3 {l : Launch} {E : Ev} {hB b1 b2 b3 b4 b5 b6 b7 b8 b9 b10 : Nat} {c1 : Nat} {f : Nat → Int32} {σ : Sg} (hR : RepC σ f) (hW : Wf σ) {e1 e2 e3 par fre pri sls drk pla tks : Nat} {t1 t2 t3 : Nat → Int32} {n p : Nat} (hn : n < 20) (hp : p < sP σ) : Ct l E yX5_bill cX5_bill 4 (some FieldType.int) 7 111 [.ref hB, .int (nI n), .int (nI p), .int (nI 3)] [(hB, .inr (5, [.ref b1, .ref b2, .ref b3, .ref b4, .ref b5, .ref b6, .ref b7, .ref b8, .ref b9, .ref b10])), (b1, .inr (4, [.ref c1])), (c1, .inl (eI E, 265, .inl f)), (b7, .inr (0, [.ref e1, .ref e2, .ref e3, .int (nI par), .int (nI fre), .int (nI pri), .int (nI sls), .int (nI drk), .int (nI pla), .int (nI tks)])), (e1, .inl (eI E, 6, .inl t1)), (e2, .inl (eI E, 6, .inl t2)), (e3, .inl (eI E, 6, .inl t3))] (fun v9 w9 => ∃ (par2 fre2 pri2 sls2 drk2 pla2 tks2 : Nat) (ta tb tc : Nat → Int32), v9 = some (.int (nI (slC σ n p (sS σ)))) ∧ w9 = [(hB, .inr (5, [.ref b1, .ref b2, .ref b3, .ref b4, .ref b5, .ref b6, .ref b7, .ref b8, .ref b9, .ref b10])), (b1, .inr (4, [.ref c1])), (c1, .inl (eI E, 265, .inl f)), (b7, .inr (0, [.ref e1, .ref e2, .ref e3, .int (nI par2), .int (nI fre2), .int (nI pri2), .int (nI sls2), .int (nI drk2), .int (nI pla2), .int (nI tks2)])), (e1, .inl (eI E, 6, .inl ta)), (e2, .inl (eI E, 6, .inl tb)), (e3, .inl (eI E, 6, .inl tc))]) := by
  have hwP := hW.P
  have hwA := hW.A
  have hwS := hW.S
  refine ct_of (by decide +kernel) (Nat.le_of_ble_eq_true rfl) (fun ω C RT => ?_)
  show ω [(hB, .inr (5, [.ref b1, .ref b2, .ref b3, .ref b4, .ref b5, .ref b6, .ref b7, .ref b8, .ref b9, .ref b10])), (b1, .inr (4, [.ref c1])), (c1, .inl (eI E, 265, .inl f)), (b7, .inr (0, [.ref e1, .ref e2, .ref e3, .int (nI par), .int (nI fre), .int (nI pri), .int (nI sls), .int (nI drk), .int (nI pla), .int (nI tks)])), (e1, .inl (eI E, 6, .inl t1)), (e2, .inl (eI E, 6, .inl t2)), (e3, .inl (eI E, 6, .inl t3))] [(0, .ref hB), (1, .int (nI n)), (2, .int (nI p)), (3, .int (nI 3))] [] 0
  refine r_iload_n C (i := 1) 1 dX5_bill_0 rfl rfl ?_
  refine r_readS (rest := []) C (c_X5_requireNight (n := n) (hn := (by omega))) lk_X5_requireNight w_2_3 [] dX5_bill_1 rfl rfl rfl ⟨by decide, by decide⟩ (Nat.le_of_ble_eq_true rfl) (st' := []) rfl ?_
  refine r_aload_n C (i := 0) 0 dX5_bill_4 rfl rfl ?_
  refine r_iload_n C (i := 2) 2 dX5_bill_5 rfl rfl ?_
  refine r_readV (rest := []) C (c_X5_requirePart (hB := hB) (b1 := b1) (b2 := b2) (b3 := b3) (b4 := b4) (b5 := b5) (b6 := b6) (b7 := b7) (b8 := b8) (b9 := b9) (b10 := b10) (c1 := c1) (f := f) (σ := σ) (p := p) (hR := hR) (hW := hW) (hx := (by omega))) lk_X5_requirePart w_3_183 [0, 1, 2] rfl dX5_bill_6 rfl rfl rfl rfl ⟨by decide, by decide⟩ (Nat.le_of_ble_eq_true rfl) (st' := []) rfl ?_
  refine r_aload_n C (i := 0) 0 dX5_bill_9 rfl rfl ?_
  refine r_get C 0 6 uX5 rfl rfl (by decide) w_1_134 rfl dX5_bill_10 ?_
  refine r_aload_n C (i := 0) 0 dX5_bill_13 rfl rfl ?_
  refine r_get C 0 0 uX5 rfl rfl (by decide) w_1_128 rfl dX5_bill_14 ?_
  refine r_iload_n C (i := 1) 1 dX5_bill_17 rfl rfl ?_
  refine r_callV (rest := []) C (c_X0_workOut (hE := b7) (e1 := e1) (e2 := e2) (e3 := e3) (par := par) (fre := fre) (pri := pri) (sls := sls) (drk := drk) (pla := pla) (tks := tks) (t1 := t1) (t2 := t2) (t3 := t3) (h0 := b1) (q1 := c1) (f := f) (σ := σ) (n := n) (hR := hR) (hW := hW) (hn := (by omega))) lk_X0_workOut w_3_145 [3, 4, 5, 6, 1, 2] rfl dX5_bill_18 rfl rfl rfl rfl ⟨by decide, by decide⟩ (Nat.le_of_ble_eq_true rfl) ?_
  rintro _ _ ⟨par_1, fre_2, pri_3, sls_4, drk_5, pla_6, tks_7, ta_8, tb_9, tc_10, rfl, rfl, hEv_11⟩
  show ω [(hB, .inr (5, [.ref b1, .ref b2, .ref b3, .ref b4, .ref b5, .ref b6, .ref b7, .ref b8, .ref b9, .ref b10])), (b1, .inr (4, [.ref c1])), (c1, .inl (eI E, 265, .inl f)), (b7, .inr (0, [.ref e1, .ref e2, .ref e3, .int (nI par_1), .int (nI fre_2), .int (nI pri_3), .int (nI sls_4), .int (nI drk_5), .int (nI pla_6), .int (nI tks_7)])), (e1, .inl (eI E, 6, .inl ta_8)), (e2, .inl (eI E, 6, .inl tb_9)), (e3, .inl (eI E, 6, .inl tc_10))] [(0, .ref hB), (1, .int (nI n)), (2, .int (nI p)), (3, .int (nI 3))] [] 21
  refine r_iload_n C (i := 3) 3 dX5_bill_21 rfl rfl ?_
  refine r_tabIn (off := 58) C 80 dX5_bill_22 (by decide) (by decide) (by decide) (by decide) ?_
  refine r_aload_n C (i := 0) 0 dX5_bill_80 rfl rfl ?_
  refine r_get C 0 0 uX5 rfl rfl (by decide) w_1_128 rfl dX5_bill_81 ?_
  refine r_iload_n C (i := 1) 1 dX5_bill_84 rfl rfl ?_
  refine r_iload_n C (i := 2) 2 dX5_bill_85 rfl rfl ?_
  refine r_readV (rest := []) C (c_X4_slipsFor (h0 := b1) (q1 := c1) (f := f) (σ := σ) (n := n) (p := p) (hR := hR) (hW := hW) (hn := (by omega)) (hp := (by omega))) lk_X4_slipsFor w_3_203 [1, 2] rfl dX5_bill_86 rfl rfl rfl rfl ⟨by decide, by decide⟩ (Nat.le_of_ble_eq_true rfl) (st' := [.int (nI (slC σ n p (sS σ)))]) rfl ?_
  exact RT.1 _ _ _ _ _ dX5_bill_89 rfl rfl (⟨_, _, _, _, _, _, _, _, _, _, rfl, rfl⟩) rfl
set_option maxRecDepth 100000 in
set_option maxHeartbeats 1000000 in
theorem c_X5_night__0 {l : Launch} {E : Ev} {hB b1 b2 b3 b4 b5 b6 b7 b8 b9 b10 : Nat} {c1 : Nat} {f : Nat → Int32} {σ : Sg} (hR : RepC σ f) (hW : Wf σ) {e1 e2 e3 par fre pri sls drk pla tks : Nat} {t1 t2 t3 : Nat → Int32} {n : Nat} (hn : n < 20) : Ct l E yX5_night cX5_night 3 (some FieldType.int) 7 110 [.ref hB, .int (nI n), .int (nI 0)] [(hB, .inr (5, [.ref b1, .ref b2, .ref b3, .ref b4, .ref b5, .ref b6, .ref b7, .ref b8, .ref b9, .ref b10])), (b1, .inr (4, [.ref c1])), (c1, .inl (eI E, 265, .inl f)), (b7, .inr (0, [.ref e1, .ref e2, .ref e3, .int (nI par), .int (nI fre), .int (nI pri), .int (nI sls), .int (nI drk), .int (nI pla), .int (nI tks)])), (e1, .inl (eI E, 6, .inl t1)), (e2, .inl (eI E, 6, .inl t2)), (e3, .inl (eI E, 6, .inl t3))] (fun v9 w9 => ∃ (par2 fre2 pri2 sls2 drk2 pla2 tks2 : Nat) (ta tb tc : Nat → Int32), v9 = some (.int (nI (dk σ n))) ∧ w9 = [(hB, .inr (5, [.ref b1, .ref b2, .ref b3, .ref b4, .ref b5, .ref b6, .ref b7, .ref b8, .ref b9, .ref b10])), (b1, .inr (4, [.ref c1])), (c1, .inl (eI E, 265, .inl f)), (b7, .inr (0, [.ref e1, .ref e2, .ref e3, .int (nI par2), .int (nI fre2), .int (nI pri2), .int (nI sls2), .int (nI drk2), .int (nI pla2), .int (nI tks2)])), (e1, .inl (eI E, 6, .inl ta)), (e2, .inl (eI E, 6, .inl tb)), (e3, .inl (eI E, 6, .inl tc))]) := by
  have hwP := hW.P
  have hwA := hW.A
  have hwS := hW.S
  refine ct_of (by decide +kernel) (Nat.le_of_ble_eq_true rfl) (fun ω C RT => ?_)
  show ω [(hB, .inr (5, [.ref b1, .ref b2, .ref b3, .ref b4, .ref b5, .ref b6, .ref b7, .ref b8, .ref b9, .ref b10])), (b1, .inr (4, [.ref c1])), (c1, .inl (eI E, 265, .inl f)), (b7, .inr (0, [.ref e1, .ref e2, .ref e3, .int (nI par), .int (nI fre), .int (nI pri), .int (nI sls), .int (nI drk), .int (nI pla), .int (nI tks)])), (e1, .inl (eI E, 6, .inl t1)), (e2, .inl (eI E, 6, .inl t2)), (e3, .inl (eI E, 6, .inl t3))] [(0, .ref hB), (1, .int (nI n)), (2, .int (nI 0))] [] 0
  refine r_iload_n C (i := 1) 1 dX5_night_0 rfl rfl ?_
  refine r_readS (rest := []) C (c_X5_requireNight (n := n) (hn := (by omega))) lk_X5_requireNight w_2_3 [] dX5_night_1 rfl rfl rfl ⟨by decide, by decide⟩ (Nat.le_of_ble_eq_true rfl) (st' := []) rfl ?_
  refine r_aload_n C (i := 0) 0 dX5_night_4 rfl rfl ?_
  refine r_get C 0 6 uX5 rfl rfl (by decide) w_1_134 rfl dX5_night_5 ?_
  refine r_aload_n C (i := 0) 0 dX5_night_8 rfl rfl ?_
  refine r_get C 0 0 uX5 rfl rfl (by decide) w_1_128 rfl dX5_night_9 ?_
  refine r_iload_n C (i := 1) 1 dX5_night_12 rfl rfl ?_
  refine r_callV (rest := []) C (c_X0_workOut (hE := b7) (e1 := e1) (e2 := e2) (e3 := e3) (par := par) (fre := fre) (pri := pri) (sls := sls) (drk := drk) (pla := pla) (tks := tks) (t1 := t1) (t2 := t2) (t3 := t3) (h0 := b1) (q1 := c1) (f := f) (σ := σ) (n := n) (hR := hR) (hW := hW) (hn := (by omega))) lk_X0_workOut w_3_145 [3, 4, 5, 6, 1, 2] rfl dX5_night_13 rfl rfl rfl rfl ⟨by decide, by decide⟩ (Nat.le_of_ble_eq_true rfl) ?_
  rintro _ _ ⟨par_1, fre_2, pri_3, sls_4, drk_5, pla_6, tks_7, ta_8, tb_9, tc_10, rfl, rfl, hEv_11⟩
  show ω [(hB, .inr (5, [.ref b1, .ref b2, .ref b3, .ref b4, .ref b5, .ref b6, .ref b7, .ref b8, .ref b9, .ref b10])), (b1, .inr (4, [.ref c1])), (c1, .inl (eI E, 265, .inl f)), (b7, .inr (0, [.ref e1, .ref e2, .ref e3, .int (nI par_1), .int (nI fre_2), .int (nI pri_3), .int (nI sls_4), .int (nI drk_5), .int (nI pla_6), .int (nI tks_7)])), (e1, .inl (eI E, 6, .inl ta_8)), (e2, .inl (eI E, 6, .inl tb_9)), (e3, .inl (eI E, 6, .inl tc_10))] [(0, .ref hB), (1, .int (nI n)), (2, .int (nI 0))] [] 16
  refine r_iload_n C (i := 2) 2 dX5_night_16 rfl rfl ?_
  refine r_tabIn (off := 35) C 52 dX5_night_17 (by decide) (by decide) (by decide) (by decide) ?_
  refine r_aload_n C (i := 0) 0 dX5_night_52 rfl rfl ?_
  refine r_get C 0 6 uX5 rfl rfl (by decide) w_1_134 rfl dX5_night_53 ?_
  refine r_readV (rest := []) C (c_X0_isDark (hE := b7) (e1 := e1) (e2 := e2) (e3 := e3) (par := par_1) (fre := fre_2) (pri := pri_3) (sls := sls_4) (drk := drk_5) (pla := pla_6) (tks := tks_7) (t1 := ta_8) (t2 := tb_9) (t3 := tc_10) (σ := σ) (n := n) (hEv := hEv_11) (hW := hW)) lk_X0_isDark w_3_146 [3, 4, 5, 6] rfl dX5_night_56 rfl rfl rfl rfl ⟨by decide, by decide⟩ (Nat.le_of_ble_eq_true rfl) (st' := [.int (nI (dk σ n))]) rfl ?_
  have hdl := dk_le σ n
  refine r_if_eq C (y := 0) (c9 := dk σ n = 0) 66 dX5_night_59 (by decide) (z_eqN (by omega)) (fun h59_12 => ?_) (fun h59_12 => ?_)
  · refine r_iconst C dX5_night_66 ki_0 ?_
    exact RT.1 _ _ _ _ _ dX5_night_67 rfl rfl (⟨_, _, _, _, _, _, _, _, _, _, sv (congrArg nI (by omega)), rfl⟩) rfl
  · refine r_iconst C dX5_night_62 ki_1 ?_
    refine r_goto C 67 dX5_night_63 (by decide) ?_
    exact RT.1 _ _ _ _ _ dX5_night_67 rfl rfl (⟨_, _, _, _, _, _, _, _, _, _, sv (congrArg nI (by omega)), rfl⟩) rfl
set_option maxRecDepth 100000 in
set_option maxHeartbeats 1000000 in
theorem c_X5_night__1 {l : Launch} {E : Ev} {hB b1 b2 b3 b4 b5 b6 b7 b8 b9 b10 : Nat} {c1 : Nat} {f : Nat → Int32} {σ : Sg} (hR : RepC σ f) (hW : Wf σ) {e1 e2 e3 par fre pri sls drk pla tks : Nat} {t1 t2 t3 : Nat → Int32} {n : Nat} (hn : n < 20) : Ct l E yX5_night cX5_night 3 (some FieldType.int) 7 110 [.ref hB, .int (nI n), .int (nI 1)] [(hB, .inr (5, [.ref b1, .ref b2, .ref b3, .ref b4, .ref b5, .ref b6, .ref b7, .ref b8, .ref b9, .ref b10])), (b1, .inr (4, [.ref c1])), (c1, .inl (eI E, 265, .inl f)), (b7, .inr (0, [.ref e1, .ref e2, .ref e3, .int (nI par), .int (nI fre), .int (nI pri), .int (nI sls), .int (nI drk), .int (nI pla), .int (nI tks)])), (e1, .inl (eI E, 6, .inl t1)), (e2, .inl (eI E, 6, .inl t2)), (e3, .inl (eI E, 6, .inl t3))] (fun v9 w9 => ∃ (par2 fre2 pri2 sls2 drk2 pla2 tks2 : Nat) (ta tb tc : Nat → Int32), v9 = some (.int (nI (tak σ n))) ∧ w9 = [(hB, .inr (5, [.ref b1, .ref b2, .ref b3, .ref b4, .ref b5, .ref b6, .ref b7, .ref b8, .ref b9, .ref b10])), (b1, .inr (4, [.ref c1])), (c1, .inl (eI E, 265, .inl f)), (b7, .inr (0, [.ref e1, .ref e2, .ref e3, .int (nI par2), .int (nI fre2), .int (nI pri2), .int (nI sls2), .int (nI drk2), .int (nI pla2), .int (nI tks2)])), (e1, .inl (eI E, 6, .inl ta)), (e2, .inl (eI E, 6, .inl tb)), (e3, .inl (eI E, 6, .inl tc))]) := by
  have hwP := hW.P
  have hwA := hW.A
  have hwS := hW.S
  refine ct_of (by decide +kernel) (Nat.le_of_ble_eq_true rfl) (fun ω C RT => ?_)
  show ω [(hB, .inr (5, [.ref b1, .ref b2, .ref b3, .ref b4, .ref b5, .ref b6, .ref b7, .ref b8, .ref b9, .ref b10])), (b1, .inr (4, [.ref c1])), (c1, .inl (eI E, 265, .inl f)), (b7, .inr (0, [.ref e1, .ref e2, .ref e3, .int (nI par), .int (nI fre), .int (nI pri), .int (nI sls), .int (nI drk), .int (nI pla), .int (nI tks)])), (e1, .inl (eI E, 6, .inl t1)), (e2, .inl (eI E, 6, .inl t2)), (e3, .inl (eI E, 6, .inl t3))] [(0, .ref hB), (1, .int (nI n)), (2, .int (nI 1))] [] 0
  refine r_iload_n C (i := 1) 1 dX5_night_0 rfl rfl ?_
  refine r_readS (rest := []) C (c_X5_requireNight (n := n) (hn := (by omega))) lk_X5_requireNight w_2_3 [] dX5_night_1 rfl rfl rfl ⟨by decide, by decide⟩ (Nat.le_of_ble_eq_true rfl) (st' := []) rfl ?_
  refine r_aload_n C (i := 0) 0 dX5_night_4 rfl rfl ?_
  refine r_get C 0 6 uX5 rfl rfl (by decide) w_1_134 rfl dX5_night_5 ?_
  refine r_aload_n C (i := 0) 0 dX5_night_8 rfl rfl ?_
  refine r_get C 0 0 uX5 rfl rfl (by decide) w_1_128 rfl dX5_night_9 ?_
  refine r_iload_n C (i := 1) 1 dX5_night_12 rfl rfl ?_
  refine r_callV (rest := []) C (c_X0_workOut (hE := b7) (e1 := e1) (e2 := e2) (e3 := e3) (par := par) (fre := fre) (pri := pri) (sls := sls) (drk := drk) (pla := pla) (tks := tks) (t1 := t1) (t2 := t2) (t3 := t3) (h0 := b1) (q1 := c1) (f := f) (σ := σ) (n := n) (hR := hR) (hW := hW) (hn := (by omega))) lk_X0_workOut w_3_145 [3, 4, 5, 6, 1, 2] rfl dX5_night_13 rfl rfl rfl rfl ⟨by decide, by decide⟩ (Nat.le_of_ble_eq_true rfl) ?_
  rintro _ _ ⟨par_1, fre_2, pri_3, sls_4, drk_5, pla_6, tks_7, ta_8, tb_9, tc_10, rfl, rfl, hEv_11⟩
  show ω [(hB, .inr (5, [.ref b1, .ref b2, .ref b3, .ref b4, .ref b5, .ref b6, .ref b7, .ref b8, .ref b9, .ref b10])), (b1, .inr (4, [.ref c1])), (c1, .inl (eI E, 265, .inl f)), (b7, .inr (0, [.ref e1, .ref e2, .ref e3, .int (nI par_1), .int (nI fre_2), .int (nI pri_3), .int (nI sls_4), .int (nI drk_5), .int (nI pla_6), .int (nI tks_7)])), (e1, .inl (eI E, 6, .inl ta_8)), (e2, .inl (eI E, 6, .inl tb_9)), (e3, .inl (eI E, 6, .inl tc_10))] [(0, .ref hB), (1, .int (nI n)), (2, .int (nI 1))] [] 16
  refine r_iload_n C (i := 2) 2 dX5_night_16 rfl rfl ?_
  refine r_tabIn (off := 51) C 68 dX5_night_17 (by decide) (by decide) (by decide) (by decide) ?_
  refine r_aload_n C (i := 0) 0 dX5_night_68 rfl rfl ?_
  refine r_get C 0 6 uX5 rfl rfl (by decide) w_1_134 rfl dX5_night_69 ?_
  refine r_readV (rest := []) C (c_X0_takings (hE := b7) (e1 := e1) (e2 := e2) (e3 := e3) (par := par_1) (fre := fre_2) (pri := pri_3) (sls := sls_4) (drk := drk_5) (pla := pla_6) (tks := tks_7) (t1 := ta_8) (t2 := tb_9) (t3 := tc_10) (σ := σ) (n := n) (hEv := hEv_11) (hW := hW)) lk_X0_takings w_3_216 [3, 4, 5, 6] rfl dX5_night_72 rfl rfl rfl rfl ⟨by decide, by decide⟩ (Nat.le_of_ble_eq_true rfl) (st' := [.int (nI (tak σ n))]) rfl ?_
  exact RT.1 _ _ _ _ _ dX5_night_75 rfl rfl (⟨_, _, _, _, _, _, _, _, _, _, rfl, rfl⟩) rfl
set_option maxRecDepth 100000 in
set_option maxHeartbeats 1000000 in
theorem c_X5_night__2 {l : Launch} {E : Ev} {hB b1 b2 b3 b4 b5 b6 b7 b8 b9 b10 : Nat} {c1 : Nat} {f : Nat → Int32} {σ : Sg} (hR : RepC σ f) (hW : Wf σ) {e1 e2 e3 par fre pri sls drk pla tks : Nat} {t1 t2 t3 : Nat → Int32} {n : Nat} (hn : n < 20) : Ct l E yX5_night cX5_night 3 (some FieldType.int) 7 110 [.ref hB, .int (nI n), .int (nI 2)] [(hB, .inr (5, [.ref b1, .ref b2, .ref b3, .ref b4, .ref b5, .ref b6, .ref b7, .ref b8, .ref b9, .ref b10])), (b1, .inr (4, [.ref c1])), (c1, .inl (eI E, 265, .inl f)), (b7, .inr (0, [.ref e1, .ref e2, .ref e3, .int (nI par), .int (nI fre), .int (nI pri), .int (nI sls), .int (nI drk), .int (nI pla), .int (nI tks)])), (e1, .inl (eI E, 6, .inl t1)), (e2, .inl (eI E, 6, .inl t2)), (e3, .inl (eI E, 6, .inl t3))] (fun v9 w9 => ∃ (par2 fre2 pri2 sls2 drk2 pla2 tks2 : Nat) (ta tb tc : Nat → Int32), v9 = some (.int (nI (bm (fun a => sI σ a n) 10))) ∧ w9 = [(hB, .inr (5, [.ref b1, .ref b2, .ref b3, .ref b4, .ref b5, .ref b6, .ref b7, .ref b8, .ref b9, .ref b10])), (b1, .inr (4, [.ref c1])), (c1, .inl (eI E, 265, .inl f)), (b7, .inr (0, [.ref e1, .ref e2, .ref e3, .int (nI par2), .int (nI fre2), .int (nI pri2), .int (nI sls2), .int (nI drk2), .int (nI pla2), .int (nI tks2)])), (e1, .inl (eI E, 6, .inl ta)), (e2, .inl (eI E, 6, .inl tb)), (e3, .inl (eI E, 6, .inl tc))]) := by
  have hwP := hW.P
  have hwA := hW.A
  have hwS := hW.S
  refine ct_of (by decide +kernel) (Nat.le_of_ble_eq_true rfl) (fun ω C RT => ?_)
  show ω [(hB, .inr (5, [.ref b1, .ref b2, .ref b3, .ref b4, .ref b5, .ref b6, .ref b7, .ref b8, .ref b9, .ref b10])), (b1, .inr (4, [.ref c1])), (c1, .inl (eI E, 265, .inl f)), (b7, .inr (0, [.ref e1, .ref e2, .ref e3, .int (nI par), .int (nI fre), .int (nI pri), .int (nI sls), .int (nI drk), .int (nI pla), .int (nI tks)])), (e1, .inl (eI E, 6, .inl t1)), (e2, .inl (eI E, 6, .inl t2)), (e3, .inl (eI E, 6, .inl t3))] [(0, .ref hB), (1, .int (nI n)), (2, .int (nI 2))] [] 0
  refine r_iload_n C (i := 1) 1 dX5_night_0 rfl rfl ?_
  refine r_readS (rest := []) C (c_X5_requireNight (n := n) (hn := (by omega))) lk_X5_requireNight w_2_3 [] dX5_night_1 rfl rfl rfl ⟨by decide, by decide⟩ (Nat.le_of_ble_eq_true rfl) (st' := []) rfl ?_
  refine r_aload_n C (i := 0) 0 dX5_night_4 rfl rfl ?_
  refine r_get C 0 6 uX5 rfl rfl (by decide) w_1_134 rfl dX5_night_5 ?_
  refine r_aload_n C (i := 0) 0 dX5_night_8 rfl rfl ?_
  refine r_get C 0 0 uX5 rfl rfl (by decide) w_1_128 rfl dX5_night_9 ?_
  refine r_iload_n C (i := 1) 1 dX5_night_12 rfl rfl ?_
  refine r_callV (rest := []) C (c_X0_workOut (hE := b7) (e1 := e1) (e2 := e2) (e3 := e3) (par := par) (fre := fre) (pri := pri) (sls := sls) (drk := drk) (pla := pla) (tks := tks) (t1 := t1) (t2 := t2) (t3 := t3) (h0 := b1) (q1 := c1) (f := f) (σ := σ) (n := n) (hR := hR) (hW := hW) (hn := (by omega))) lk_X0_workOut w_3_145 [3, 4, 5, 6, 1, 2] rfl dX5_night_13 rfl rfl rfl rfl ⟨by decide, by decide⟩ (Nat.le_of_ble_eq_true rfl) ?_
  rintro _ _ ⟨par_1, fre_2, pri_3, sls_4, drk_5, pla_6, tks_7, ta_8, tb_9, tc_10, rfl, rfl, hEv_11⟩
  show ω [(hB, .inr (5, [.ref b1, .ref b2, .ref b3, .ref b4, .ref b5, .ref b6, .ref b7, .ref b8, .ref b9, .ref b10])), (b1, .inr (4, [.ref c1])), (c1, .inl (eI E, 265, .inl f)), (b7, .inr (0, [.ref e1, .ref e2, .ref e3, .int (nI par_1), .int (nI fre_2), .int (nI pri_3), .int (nI sls_4), .int (nI drk_5), .int (nI pla_6), .int (nI tks_7)])), (e1, .inl (eI E, 6, .inl ta_8)), (e2, .inl (eI E, 6, .inl tb_9)), (e3, .inl (eI E, 6, .inl tc_10))] [(0, .ref hB), (1, .int (nI n)), (2, .int (nI 2))] [] 16
  refine r_iload_n C (i := 2) 2 dX5_night_16 rfl rfl ?_
  refine r_tabIn (off := 59) C 76 dX5_night_17 (by decide) (by decide) (by decide) (by decide) ?_
  refine r_aload_n C (i := 0) 0 dX5_night_76 rfl rfl ?_
  refine r_get C 0 0 uX5 rfl rfl (by decide) w_1_128 rfl dX5_night_77 ?_
  refine r_iload_n C (i := 1) 1 dX5_night_80 rfl rfl ?_
  refine r_readV (rest := []) C (c_X4_illOn (h0 := b1) (q1 := c1) (f := f) (σ := σ) (n := n) (hR := hR) (hW := hW) (hn := (by omega))) lk_X4_illOn w_3_217 [1, 2] rfl dX5_night_81 rfl rfl rfl rfl ⟨by decide, by decide⟩ (Nat.le_of_ble_eq_true rfl) (st' := [.int (nI (bm (fun a => sI σ a n) 10))]) rfl ?_
  exact RT.1 _ _ _ _ _ dX5_night_84 rfl rfl (⟨_, _, _, _, _, _, _, _, _, _, rfl, rfl⟩) rfl
set_option maxRecDepth 100000 in
set_option maxHeartbeats 1000000 in
theorem c_X5_night__3 {l : Launch} {E : Ev} {hB b1 b2 b3 b4 b5 b6 b7 b8 b9 b10 : Nat} {c1 : Nat} {f : Nat → Int32} {σ : Sg} (hR : RepC σ f) (hW : Wf σ) {e1 e2 e3 par fre pri sls drk pla tks : Nat} {t1 t2 t3 : Nat → Int32} {n : Nat} (hn : n < 20) : Ct l E yX5_night cX5_night 3 (some FieldType.int) 7 110 [.ref hB, .int (nI n), .int (nI 3)] [(hB, .inr (5, [.ref b1, .ref b2, .ref b3, .ref b4, .ref b5, .ref b6, .ref b7, .ref b8, .ref b9, .ref b10])), (b1, .inr (4, [.ref c1])), (c1, .inl (eI E, 265, .inl f)), (b7, .inr (0, [.ref e1, .ref e2, .ref e3, .int (nI par), .int (nI fre), .int (nI pri), .int (nI sls), .int (nI drk), .int (nI pla), .int (nI tks)])), (e1, .inl (eI E, 6, .inl t1)), (e2, .inl (eI E, 6, .inl t2)), (e3, .inl (eI E, 6, .inl t3))] (fun v9 w9 => ∃ (par2 fre2 pri2 sls2 drk2 pla2 tks2 : Nat) (ta tb tc : Nat → Int32), v9 = some (.int (nI (plr σ n))) ∧ w9 = [(hB, .inr (5, [.ref b1, .ref b2, .ref b3, .ref b4, .ref b5, .ref b6, .ref b7, .ref b8, .ref b9, .ref b10])), (b1, .inr (4, [.ref c1])), (c1, .inl (eI E, 265, .inl f)), (b7, .inr (0, [.ref e1, .ref e2, .ref e3, .int (nI par2), .int (nI fre2), .int (nI pri2), .int (nI sls2), .int (nI drk2), .int (nI pla2), .int (nI tks2)])), (e1, .inl (eI E, 6, .inl ta)), (e2, .inl (eI E, 6, .inl tb)), (e3, .inl (eI E, 6, .inl tc))]) := by
  have hwP := hW.P
  have hwA := hW.A
  have hwS := hW.S
  refine ct_of (by decide +kernel) (Nat.le_of_ble_eq_true rfl) (fun ω C RT => ?_)
  show ω [(hB, .inr (5, [.ref b1, .ref b2, .ref b3, .ref b4, .ref b5, .ref b6, .ref b7, .ref b8, .ref b9, .ref b10])), (b1, .inr (4, [.ref c1])), (c1, .inl (eI E, 265, .inl f)), (b7, .inr (0, [.ref e1, .ref e2, .ref e3, .int (nI par), .int (nI fre), .int (nI pri), .int (nI sls), .int (nI drk), .int (nI pla), .int (nI tks)])), (e1, .inl (eI E, 6, .inl t1)), (e2, .inl (eI E, 6, .inl t2)), (e3, .inl (eI E, 6, .inl t3))] [(0, .ref hB), (1, .int (nI n)), (2, .int (nI 3))] [] 0
  refine r_iload_n C (i := 1) 1 dX5_night_0 rfl rfl ?_
  refine r_readS (rest := []) C (c_X5_requireNight (n := n) (hn := (by omega))) lk_X5_requireNight w_2_3 [] dX5_night_1 rfl rfl rfl ⟨by decide, by decide⟩ (Nat.le_of_ble_eq_true rfl) (st' := []) rfl ?_
  refine r_aload_n C (i := 0) 0 dX5_night_4 rfl rfl ?_
  refine r_get C 0 6 uX5 rfl rfl (by decide) w_1_134 rfl dX5_night_5 ?_
  refine r_aload_n C (i := 0) 0 dX5_night_8 rfl rfl ?_
  refine r_get C 0 0 uX5 rfl rfl (by decide) w_1_128 rfl dX5_night_9 ?_
  refine r_iload_n C (i := 1) 1 dX5_night_12 rfl rfl ?_
  refine r_callV (rest := []) C (c_X0_workOut (hE := b7) (e1 := e1) (e2 := e2) (e3 := e3) (par := par) (fre := fre) (pri := pri) (sls := sls) (drk := drk) (pla := pla) (tks := tks) (t1 := t1) (t2 := t2) (t3 := t3) (h0 := b1) (q1 := c1) (f := f) (σ := σ) (n := n) (hR := hR) (hW := hW) (hn := (by omega))) lk_X0_workOut w_3_145 [3, 4, 5, 6, 1, 2] rfl dX5_night_13 rfl rfl rfl rfl ⟨by decide, by decide⟩ (Nat.le_of_ble_eq_true rfl) ?_
  rintro _ _ ⟨par_1, fre_2, pri_3, sls_4, drk_5, pla_6, tks_7, ta_8, tb_9, tc_10, rfl, rfl, hEv_11⟩
  show ω [(hB, .inr (5, [.ref b1, .ref b2, .ref b3, .ref b4, .ref b5, .ref b6, .ref b7, .ref b8, .ref b9, .ref b10])), (b1, .inr (4, [.ref c1])), (c1, .inl (eI E, 265, .inl f)), (b7, .inr (0, [.ref e1, .ref e2, .ref e3, .int (nI par_1), .int (nI fre_2), .int (nI pri_3), .int (nI sls_4), .int (nI drk_5), .int (nI pla_6), .int (nI tks_7)])), (e1, .inl (eI E, 6, .inl ta_8)), (e2, .inl (eI E, 6, .inl tb_9)), (e3, .inl (eI E, 6, .inl tc_10))] [(0, .ref hB), (1, .int (nI n)), (2, .int (nI 3))] [] 16
  refine r_iload_n C (i := 2) 2 dX5_night_16 rfl rfl ?_
  refine r_tabIn (off := 68) C 85 dX5_night_17 (by decide) (by decide) (by decide) (by decide) ?_
  refine r_aload_n C (i := 0) 0 dX5_night_85 rfl rfl ?_
  refine r_get C 0 6 uX5 rfl rfl (by decide) w_1_134 rfl dX5_night_86 ?_
  refine r_readV (rest := []) C (c_X0_players (hE := b7) (e1 := e1) (e2 := e2) (e3 := e3) (par := par_1) (fre := fre_2) (pri := pri_3) (sls := sls_4) (drk := drk_5) (pla := pla_6) (tks := tks_7) (t1 := ta_8) (t2 := tb_9) (t3 := tc_10) (σ := σ) (n := n) (hEv := hEv_11) (hW := hW)) lk_X0_players w_3_218 [3, 4, 5, 6] rfl dX5_night_89 rfl rfl rfl rfl ⟨by decide, by decide⟩ (Nat.le_of_ble_eq_true rfl) (st' := [.int (nI (plr σ n))]) rfl ?_
  exact RT.1 _ _ _ _ _ dX5_night_92 rfl rfl (⟨_, _, _, _, _, _, _, _, _, _, rfl, rfl⟩) rfl
set_option maxRecDepth 100000 in
set_option maxHeartbeats 1000000 in
theorem c_X5_setting {l : Launch} {E : Ev} {hB b1 b2 b3 b4 b5 b6 b7 b8 b9 b10 : Nat} {c1 : Nat} {f : Nat → Int32} {σ : Sg} (hR : RepC σ f) (hW : Wf σ) {w : Nat} (hw : w < 2) : Cr l E yX5_setting cX5_setting 2 (some FieldType.int) 7 110 [.ref hB, .int (nI w)] [(hB, .inr (5, [.ref b1, .ref b2, .ref b3, .ref b4, .ref b5, .ref b6, .ref b7, .ref b8, .ref b9, .ref b10])), (b1, .inr (4, [.ref c1])), (c1, .inl (eI E, 265, .inl f))] (some (.int (nI (sO σ w)))) := by
  have hwP := hW.P
  have hwA := hW.A
  have hwS := hW.S
  refine ct_of (by decide +kernel) (Nat.le_of_ble_eq_true rfl) (fun ω C RT => ?_)
  show ω [(hB, .inr (5, [.ref b1, .ref b2, .ref b3, .ref b4, .ref b5, .ref b6, .ref b7, .ref b8, .ref b9, .ref b10])), (b1, .inr (4, [.ref c1])), (c1, .inl (eI E, 265, .inl f))] [(0, .ref hB), (1, .int (nI w))] [] 0
  refine r_iload_n C (i := 1) 1 dX5_setting_0 rfl rfl ?_
  refine r_readS (rest := []) C (c_X5_requireSetting (w := w) (hw := (by omega))) lk_X5_requireSetting w_4_54 [] dX5_setting_1 rfl rfl rfl ⟨by decide, by decide⟩ (Nat.le_of_ble_eq_true rfl) (st' := []) rfl ?_
  refine r_aload_n C (i := 0) 0 dX5_setting_4 rfl rfl ?_
  refine r_get C 0 0 uX5 rfl rfl (by decide) w_1_128 rfl dX5_setting_5 ?_
  refine r_iload_n C (i := 1) 1 dX5_setting_8 rfl rfl ?_
  refine r_readV (rest := []) C (c_X4_option (h0 := b1) (q1 := c1) (f := f) (σ := σ) (i := w) (hR := hR) (hW := hW) (hi := (by omega))) lk_X4_option w_4_58 [1, 2] rfl dX5_setting_9 rfl rfl rfl rfl ⟨by decide, by decide⟩ (Nat.le_of_ble_eq_true rfl) (st' := [.int (nI (sO σ w))]) rfl ?_
  exact RT.1 _ _ _ _ _ dX5_setting_12 rfl rfl (rd_i rfl) rfl
set_option maxRecDepth 100000 in
set_option maxHeartbeats 1000000 in
theorem c_X5_ranked {l : Launch} {E : Ev} {hB b1 b2 b3 b4 b5 b6 b7 b8 b9 b10 : Nat} {c1 : Nat} {f : Nat → Int32} {σ : Sg} (hR : RepC σ f) (hW : Wf σ) {p k : Nat} (hp : p < sP σ) (hk : k < 2147483648) : Cr l E yX5_ranked cX5_ranked 3 (some FieldType.int) 7 111 [.ref hB, .int (nI p), .int (nI k)] [(hB, .inr (5, [.ref b1, .ref b2, .ref b3, .ref b4, .ref b5, .ref b6, .ref b7, .ref b8, .ref b9, .ref b10])), (b1, .inr (4, [.ref c1])), (c1, .inl (eI E, 265, .inl f))] (some (.int (mI (sUm σ p k)))) := by
  have hwP := hW.P
  have hwA := hW.A
  have hwS := hW.S
  refine ct_of (by decide +kernel) (Nat.le_of_ble_eq_true rfl) (fun ω C RT => ?_)
  show ω [(hB, .inr (5, [.ref b1, .ref b2, .ref b3, .ref b4, .ref b5, .ref b6, .ref b7, .ref b8, .ref b9, .ref b10])), (b1, .inr (4, [.ref c1])), (c1, .inl (eI E, 265, .inl f))] [(0, .ref hB), (1, .int (nI p)), (2, .int (nI k))] [] 0
  refine r_aload_n C (i := 0) 0 dX5_ranked_0 rfl rfl ?_
  refine r_iload_n C (i := 1) 1 dX5_ranked_1 rfl rfl ?_
  refine r_readV (rest := []) C (c_X5_requirePart (hB := hB) (b1 := b1) (b2 := b2) (b3 := b3) (b4 := b4) (b5 := b5) (b6 := b6) (b7 := b7) (b8 := b8) (b9 := b9) (b10 := b10) (c1 := c1) (f := f) (σ := σ) (p := p) (hR := hR) (hW := hW) (hx := (by omega))) lk_X5_requirePart w_3_183 [0, 1, 2] rfl dX5_ranked_2 rfl rfl rfl rfl ⟨by decide, by decide⟩ (Nat.le_of_ble_eq_true rfl) (st' := []) rfl ?_
  refine r_iload_n C (i := 2) 2 dX5_ranked_5 rfl rfl ?_
  refine r_if_geT C (y := 0) 19 dX5_ranked_6 (by decide) ((z_geN (by omega)).mpr (by omega)) ?_
  refine r_aload_n C (i := 0) 0 dX5_ranked_19 rfl rfl ?_
  refine r_get C 0 0 uX5 rfl rfl (by decide) w_1_128 rfl dX5_ranked_20 ?_
  refine r_iload_n C (i := 1) 1 dX5_ranked_23 rfl rfl ?_
  refine r_iload_n C (i := 2) 2 dX5_ranked_24 rfl rfl ?_
  refine r_readV (rest := []) C (c_X4_understudyAt (h0 := b1) (q1 := c1) (f := f) (σ := σ) (p := p) (k := k) (hR := hR) (hW := hW) (hp := (by omega)) (hk := (by omega))) lk_X4_understudyAt w_4_25 [1, 2] rfl dX5_ranked_25 rfl rfl rfl rfl ⟨by decide, by decide⟩ (Nat.le_of_ble_eq_true rfl) (st' := [.int (mI (sUm σ p k))]) rfl ?_
  exact RT.1 _ _ _ _ _ dX5_ranked_28 rfl rfl (rd_i rfl) rfl
set_option maxRecDepth 100000 in
set_option maxHeartbeats 1000000 in
theorem c_X5_found__0 {l : Launch} {E : Ev} {hB b1 b2 b3 b4 b5 b6 b7 b8 b9 b10 : Nat} {c1 : Nat} {f : Nat → Int32} {σ : Sg} (hR : RepC σ f) (hW : Wf σ) {k : Nat} (hk : k < sS σ) : Cr l E yX5_found cX5_found 3 (some FieldType.int) 7 111 [.ref hB, .int (nI k), .int (nI 0)] [(hB, .inr (5, [.ref b1, .ref b2, .ref b3, .ref b4, .ref b5, .ref b6, .ref b7, .ref b8, .ref b9, .ref b10])), (b1, .inr (4, [.ref c1])), (c1, .inl (eI E, 265, .inl f))] (some (.int (nI (sL σ k 0)))) := by
  have hwP := hW.P
  have hwA := hW.A
  have hwS := hW.S
  refine ct_of (by decide +kernel) (Nat.le_of_ble_eq_true rfl) (fun ω C RT => ?_)
  show ω [(hB, .inr (5, [.ref b1, .ref b2, .ref b3, .ref b4, .ref b5, .ref b6, .ref b7, .ref b8, .ref b9, .ref b10])), (b1, .inr (4, [.ref c1])), (c1, .inl (eI E, 265, .inl f))] [(0, .ref hB), (1, .int (nI k)), (2, .int (nI 0))] [] 0
  refine r_aload_n C (i := 0) 0 dX5_found_0 rfl rfl ?_
  refine r_iload_n C (i := 1) 1 dX5_found_1 rfl rfl ?_
  refine r_readV (rest := []) C (c_X5_requireSlip (hB := hB) (b1 := b1) (b2 := b2) (b3 := b3) (b4 := b4) (b5 := b5) (b6 := b6) (b7 := b7) (b8 := b8) (b9 := b9) (b10 := b10) (c1 := c1) (f := f) (σ := σ) (k := k) (hR := hR) (hW := hW) (hx := (by omega))) lk_X5_requireSlip w_4_33 [0, 1, 2] rfl dX5_found_2 rfl rfl rfl rfl ⟨by decide, by decide⟩ (Nat.le_of_ble_eq_true rfl) (st' := []) rfl ?_
  refine r_iload_n C (i := 2) 2 dX5_found_5 rfl rfl ?_
  refine r_tabIn (off := 34) C 40 dX5_found_6 (by decide) (by decide) (by decide) (by decide) ?_
  refine r_aload_n C (i := 0) 0 dX5_found_40 rfl rfl ?_
  refine r_get C 0 0 uX5 rfl rfl (by decide) w_1_128 rfl dX5_found_41 ?_
  refine r_iload_n C (i := 1) 1 dX5_found_44 rfl rfl ?_
  refine r_readV (rest := []) C (c_X4_slipNight (h0 := b1) (q1 := c1) (f := f) (σ := σ) (k := k) (hR := hR) (hW := hW) (hk := (by omega))) lk_X4_slipNight w_4_42 [1, 2] rfl dX5_found_45 rfl rfl rfl rfl ⟨by decide, by decide⟩ (Nat.le_of_ble_eq_true rfl) (st' := [.int (nI (sL σ k 0))]) rfl ?_
  exact RT.1 _ _ _ _ _ dX5_found_48 rfl rfl (rd_i rfl) rfl
set_option maxRecDepth 100000 in
set_option maxHeartbeats 1000000 in
theorem c_X5_found__1 {l : Launch} {E : Ev} {hB b1 b2 b3 b4 b5 b6 b7 b8 b9 b10 : Nat} {c1 : Nat} {f : Nat → Int32} {σ : Sg} (hR : RepC σ f) (hW : Wf σ) {k : Nat} (hk : k < sS σ) : Cr l E yX5_found cX5_found 3 (some FieldType.int) 7 111 [.ref hB, .int (nI k), .int (nI 1)] [(hB, .inr (5, [.ref b1, .ref b2, .ref b3, .ref b4, .ref b5, .ref b6, .ref b7, .ref b8, .ref b9, .ref b10])), (b1, .inr (4, [.ref c1])), (c1, .inl (eI E, 265, .inl f))] (some (.int (nI (sL σ k 1)))) := by
  have hwP := hW.P
  have hwA := hW.A
  have hwS := hW.S
  refine ct_of (by decide +kernel) (Nat.le_of_ble_eq_true rfl) (fun ω C RT => ?_)
  show ω [(hB, .inr (5, [.ref b1, .ref b2, .ref b3, .ref b4, .ref b5, .ref b6, .ref b7, .ref b8, .ref b9, .ref b10])), (b1, .inr (4, [.ref c1])), (c1, .inl (eI E, 265, .inl f))] [(0, .ref hB), (1, .int (nI k)), (2, .int (nI 1))] [] 0
  refine r_aload_n C (i := 0) 0 dX5_found_0 rfl rfl ?_
  refine r_iload_n C (i := 1) 1 dX5_found_1 rfl rfl ?_
  refine r_readV (rest := []) C (c_X5_requireSlip (hB := hB) (b1 := b1) (b2 := b2) (b3 := b3) (b4 := b4) (b5 := b5) (b6 := b6) (b7 := b7) (b8 := b8) (b9 := b9) (b10 := b10) (c1 := c1) (f := f) (σ := σ) (k := k) (hR := hR) (hW := hW) (hx := (by omega))) lk_X5_requireSlip w_4_33 [0, 1, 2] rfl dX5_found_2 rfl rfl rfl rfl ⟨by decide, by decide⟩ (Nat.le_of_ble_eq_true rfl) (st' := []) rfl ?_
  refine r_iload_n C (i := 2) 2 dX5_found_5 rfl rfl ?_
  refine r_tabIn (off := 43) C 49 dX5_found_6 (by decide) (by decide) (by decide) (by decide) ?_
  refine r_aload_n C (i := 0) 0 dX5_found_49 rfl rfl ?_
  refine r_get C 0 0 uX5 rfl rfl (by decide) w_1_128 rfl dX5_found_50 ?_
  refine r_iload_n C (i := 1) 1 dX5_found_53 rfl rfl ?_
  refine r_readV (rest := []) C (c_X4_slipPart (h0 := b1) (q1 := c1) (f := f) (σ := σ) (k := k) (hR := hR) (hW := hW) (hk := (by omega))) lk_X4_slipPart w_4_43 [1, 2] rfl dX5_found_54 rfl rfl rfl rfl ⟨by decide, by decide⟩ (Nat.le_of_ble_eq_true rfl) (st' := [.int (nI (sL σ k 1))]) rfl ?_
  exact RT.1 _ _ _ _ _ dX5_found_57 rfl rfl (rd_i rfl) rfl
set_option maxRecDepth 100000 in
set_option maxHeartbeats 1000000 in
theorem c_X5_found__2 {l : Launch} {E : Ev} {hB b1 b2 b3 b4 b5 b6 b7 b8 b9 b10 : Nat} {c1 : Nat} {f : Nat → Int32} {σ : Sg} (hR : RepC σ f) (hW : Wf σ) {k : Nat} (hk : k < sS σ) : Cr l E yX5_found cX5_found 3 (some FieldType.int) 7 111 [.ref hB, .int (nI k), .int (nI 2)] [(hB, .inr (5, [.ref b1, .ref b2, .ref b3, .ref b4, .ref b5, .ref b6, .ref b7, .ref b8, .ref b9, .ref b10])), (b1, .inr (4, [.ref c1])), (c1, .inl (eI E, 265, .inl f))] (some (.int (nI (sL σ k 2)))) := by
  have hwP := hW.P
  have hwA := hW.A
  have hwS := hW.S
  refine ct_of (by decide +kernel) (Nat.le_of_ble_eq_true rfl) (fun ω C RT => ?_)
  show ω [(hB, .inr (5, [.ref b1, .ref b2, .ref b3, .ref b4, .ref b5, .ref b6, .ref b7, .ref b8, .ref b9, .ref b10])), (b1, .inr (4, [.ref c1])), (c1, .inl (eI E, 265, .inl f))] [(0, .ref hB), (1, .int (nI k)), (2, .int (nI 2))] [] 0
  refine r_aload_n C (i := 0) 0 dX5_found_0 rfl rfl ?_
  refine r_iload_n C (i := 1) 1 dX5_found_1 rfl rfl ?_
  refine r_readV (rest := []) C (c_X5_requireSlip (hB := hB) (b1 := b1) (b2 := b2) (b3 := b3) (b4 := b4) (b5 := b5) (b6 := b6) (b7 := b7) (b8 := b8) (b9 := b9) (b10 := b10) (c1 := c1) (f := f) (σ := σ) (k := k) (hR := hR) (hW := hW) (hx := (by omega))) lk_X5_requireSlip w_4_33 [0, 1, 2] rfl dX5_found_2 rfl rfl rfl rfl ⟨by decide, by decide⟩ (Nat.le_of_ble_eq_true rfl) (st' := []) rfl ?_
  refine r_iload_n C (i := 2) 2 dX5_found_5 rfl rfl ?_
  refine r_tabIn (off := 52) C 58 dX5_found_6 (by decide) (by decide) (by decide) (by decide) ?_
  refine r_aload_n C (i := 0) 0 dX5_found_58 rfl rfl ?_
  refine r_get C 0 0 uX5 rfl rfl (by decide) w_1_128 rfl dX5_found_59 ?_
  refine r_iload_n C (i := 1) 1 dX5_found_62 rfl rfl ?_
  refine r_readV (rest := []) C (c_X4_slipActor (h0 := b1) (q1 := c1) (f := f) (σ := σ) (k := k) (hR := hR) (hW := hW) (hk := (by omega))) lk_X4_slipActor w_4_44 [1, 2] rfl dX5_found_63 rfl rfl rfl rfl ⟨by decide, by decide⟩ (Nat.le_of_ble_eq_true rfl) (st' := [.int (nI (sL σ k 2))]) rfl ?_
  exact RT.1 _ _ _ _ _ dX5_found_66 rfl rfl (rd_i rfl) rfl
set_option maxRecDepth 100000 in
set_option maxHeartbeats 1000000 in
theorem c_X5_found__3 {l : Launch} {E : Ev} {hB b1 b2 b3 b4 b5 b6 b7 b8 b9 b10 : Nat} {c1 : Nat} {f : Nat → Int32} {σ : Sg} (hR : RepC σ f) (hW : Wf σ) {k : Nat} (hk : k < sS σ) : Cr l E yX5_found cX5_found 3 (some FieldType.int) 7 111 [.ref hB, .int (nI k), .int (nI 3)] [(hB, .inr (5, [.ref b1, .ref b2, .ref b3, .ref b4, .ref b5, .ref b6, .ref b7, .ref b8, .ref b9, .ref b10])), (b1, .inr (4, [.ref c1])), (c1, .inl (eI E, 265, .inl f))] (some (.int (nI (sL σ k 3)))) := by
  have hwP := hW.P
  have hwA := hW.A
  have hwS := hW.S
  refine ct_of (by decide +kernel) (Nat.le_of_ble_eq_true rfl) (fun ω C RT => ?_)
  show ω [(hB, .inr (5, [.ref b1, .ref b2, .ref b3, .ref b4, .ref b5, .ref b6, .ref b7, .ref b8, .ref b9, .ref b10])), (b1, .inr (4, [.ref c1])), (c1, .inl (eI E, 265, .inl f))] [(0, .ref hB), (1, .int (nI k)), (2, .int (nI 3))] [] 0
  refine r_aload_n C (i := 0) 0 dX5_found_0 rfl rfl ?_
  refine r_iload_n C (i := 1) 1 dX5_found_1 rfl rfl ?_
  refine r_readV (rest := []) C (c_X5_requireSlip (hB := hB) (b1 := b1) (b2 := b2) (b3 := b3) (b4 := b4) (b5 := b5) (b6 := b6) (b7 := b7) (b8 := b8) (b9 := b9) (b10 := b10) (c1 := c1) (f := f) (σ := σ) (k := k) (hR := hR) (hW := hW) (hx := (by omega))) lk_X5_requireSlip w_4_33 [0, 1, 2] rfl dX5_found_2 rfl rfl rfl rfl ⟨by decide, by decide⟩ (Nat.le_of_ble_eq_true rfl) (st' := []) rfl ?_
  refine r_iload_n C (i := 2) 2 dX5_found_5 rfl rfl ?_
  refine r_tabIn (off := 61) C 67 dX5_found_6 (by decide) (by decide) (by decide) (by decide) ?_
  refine r_aload_n C (i := 0) 0 dX5_found_67 rfl rfl ?_
  refine r_get C 0 0 uX5 rfl rfl (by decide) w_1_128 rfl dX5_found_68 ?_
  refine r_iload_n C (i := 1) 1 dX5_found_71 rfl rfl ?_
  refine r_readV (rest := []) C (c_X4_slipHour (h0 := b1) (q1 := c1) (f := f) (σ := σ) (k := k) (hR := hR) (hW := hW) (hk := (by omega))) lk_X4_slipHour w_4_45 [1, 2] rfl dX5_found_72 rfl rfl rfl rfl ⟨by decide, by decide⟩ (Nat.le_of_ble_eq_true rfl) (st' := [.int (nI (sL σ k 3))]) rfl ?_
  exact RT.1 _ _ _ _ _ dX5_found_75 rfl rfl (rd_i rfl) rfl
set_option maxRecDepth 100000 in
set_option maxHeartbeats 1000000 in
theorem c_X5_actor__0 {l : Launch} {E : Ev} {hB b1 b2 b3 b4 b5 b6 b7 b8 b9 b10 : Nat} {c1 : Nat} {f : Nat → Int32} {σ : Sg} (hR : RepC σ f) (hW : Wf σ) {a : Nat} (ha : a < sA σ) : Cr l E yX5_actor cX5_actor 3 (some FieldType.int) 7 119 [.ref hB, .int (nI a), .int (nI 0)] [(hB, .inr (5, [.ref b1, .ref b2, .ref b3, .ref b4, .ref b5, .ref b6, .ref b7, .ref b8, .ref b9, .ref b10])), (b1, .inr (4, [.ref c1])), (c1, .inl (eI E, 265, .inl f))] (some (.int (nI (sF σ a)))) := by
  have hwP := hW.P
  have hwA := hW.A
  have hwS := hW.S
  refine ct_of (by decide +kernel) (Nat.le_of_ble_eq_true rfl) (fun ω C RT => ?_)
  show ω [(hB, .inr (5, [.ref b1, .ref b2, .ref b3, .ref b4, .ref b5, .ref b6, .ref b7, .ref b8, .ref b9, .ref b10])), (b1, .inr (4, [.ref c1])), (c1, .inl (eI E, 265, .inl f))] [(0, .ref hB), (1, .int (nI a)), (2, .int (nI 0))] [] 0
  refine r_aload_n C (i := 0) 0 dX5_actor_0 rfl rfl ?_
  refine r_iload_n C (i := 1) 1 dX5_actor_1 rfl rfl ?_
  refine r_readV (rest := []) C (c_X5_requireActor (hB := hB) (b1 := b1) (b2 := b2) (b3 := b3) (b4 := b4) (b5 := b5) (b6 := b6) (b7 := b7) (b8 := b8) (b9 := b9) (b10 := b10) (c1 := c1) (f := f) (σ := σ) (a := a) (hR := hR) (hW := hW) (hx := (by omega))) lk_X5_requireActor w_1_167 [0, 1, 2] rfl dX5_actor_2 rfl rfl rfl rfl ⟨by decide, by decide⟩ (Nat.le_of_ble_eq_true rfl) (st' := []) rfl ?_
  refine r_iload_n C (i := 2) 2 dX5_actor_5 rfl rfl ?_
  refine r_tabIn (off := 38) C 44 dX5_actor_6 (by decide) (by decide) (by decide) (by decide) ?_
  refine r_aload_n C (i := 0) 0 dX5_actor_44 rfl rfl ?_
  refine r_get C 0 0 uX5 rfl rfl (by decide) w_1_128 rfl dX5_actor_45 ?_
  refine r_iload_n C (i := 1) 1 dX5_actor_48 rfl rfl ?_
  refine r_readV (rest := []) C (c_X4_fame (h0 := b1) (q1 := c1) (f := f) (σ := σ) (a := a) (hR := hR) (hW := hW) (ha := (by omega))) lk_X4_fame w_3_234 [1, 2] rfl dX5_actor_49 rfl rfl rfl rfl ⟨by decide, by decide⟩ (Nat.le_of_ble_eq_true rfl) (st' := [.int (nI (sF σ a))]) rfl ?_
  exact RT.1 _ _ _ _ _ dX5_actor_52 rfl rfl (rd_i rfl) rfl
set_option maxRecDepth 100000 in
set_option maxHeartbeats 1000000 in
theorem c_X5_actor__5 {l : Launch} {E : Ev} {hB b1 b2 b3 b4 b5 b6 b7 b8 b9 b10 : Nat} {c1 : Nat} {f : Nat → Int32} {σ : Sg} (hR : RepC σ f) (hW : Wf σ) {a : Nat} (ha : a < sA σ) : Cr l E yX5_actor cX5_actor 3 (some FieldType.int) 7 119 [.ref hB, .int (nI a), .int (nI 5)] [(hB, .inr (5, [.ref b1, .ref b2, .ref b3, .ref b4, .ref b5, .ref b6, .ref b7, .ref b8, .ref b9, .ref b10])), (b1, .inr (4, [.ref c1])), (c1, .inl (eI E, 265, .inl f))] (some (.int (nI (cntI σ a 20)))) := by
  have hwP := hW.P
  have hwA := hW.A
  have hwS := hW.S
  refine ct_of (by decide +kernel) (Nat.le_of_ble_eq_true rfl) (fun ω C RT => ?_)
  show ω [(hB, .inr (5, [.ref b1, .ref b2, .ref b3, .ref b4, .ref b5, .ref b6, .ref b7, .ref b8, .ref b9, .ref b10])), (b1, .inr (4, [.ref c1])), (c1, .inl (eI E, 265, .inl f))] [(0, .ref hB), (1, .int (nI a)), (2, .int (nI 5))] [] 0
  refine r_aload_n C (i := 0) 0 dX5_actor_0 rfl rfl ?_
  refine r_iload_n C (i := 1) 1 dX5_actor_1 rfl rfl ?_
  refine r_readV (rest := []) C (c_X5_requireActor (hB := hB) (b1 := b1) (b2 := b2) (b3 := b3) (b4 := b4) (b5 := b5) (b6 := b6) (b7 := b7) (b8 := b8) (b9 := b9) (b10 := b10) (c1 := c1) (f := f) (σ := σ) (a := a) (hR := hR) (hW := hW) (hx := (by omega))) lk_X5_requireActor w_1_167 [0, 1, 2] rfl dX5_actor_2 rfl rfl rfl rfl ⟨by decide, by decide⟩ (Nat.le_of_ble_eq_true rfl) (st' := []) rfl ?_
  refine r_iload_n C (i := 2) 2 dX5_actor_5 rfl rfl ?_
  refine r_tabIn (off := 80) C 86 dX5_actor_6 (by decide) (by decide) (by decide) (by decide) ?_
  refine r_aload_n C (i := 0) 0 dX5_actor_86 rfl rfl ?_
  refine r_get C 0 0 uX5 rfl rfl (by decide) w_1_128 rfl dX5_actor_87 ?_
  refine r_iload_n C (i := 1) 1 dX5_actor_90 rfl rfl ?_
  refine r_readV (rest := []) C (c_X4_illNights (h0 := b1) (q1 := c1) (f := f) (σ := σ) (a := a) (hR := hR) (hW := hW) (ha := (by omega))) lk_X4_illNights w_2_33 [1, 2] rfl dX5_actor_91 rfl rfl rfl rfl ⟨by decide, by decide⟩ (Nat.le_of_ble_eq_true rfl) (st' := [.int (nI (cntI σ a 20))]) rfl ?_
  exact RT.1 _ _ _ _ _ dX5_actor_94 rfl rfl (rd_i rfl) rfl
