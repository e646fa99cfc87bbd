/-! sums -/
def su (f : Nat → Nat) : Nat → Nat
  | 0 => 0
  | n + 1 => su f n + f n
theorem su_add (f g : Nat → Nat) : ∀ n, su (fun k => f k + g k) n = su f n + su g n
  | 0 => rfl
  | n + 1 => by rw [su, su, su, su_add f g n]; omega
theorem su_c {f g : Nat → Nat} : ∀ {n : Nat}, (∀ k, k < n → f k = g k) → su f n = su g n
  | 0, _ => rfl
  | n + 1, h => by rw [su, su, su_c (fun k hk => h k (by omega)), h n (Nat.lt_succ_self n)]
theorem su_z {f : Nat → Nat} : ∀ {n : Nat}, (∀ k, k < n → f k = 0) → su f n = 0
  | 0, _ => rfl
  | n + 1, h => by rw [su, su_z (fun k hk => h k (by omega)), h n (Nat.lt_succ_self n)]
theorem su_1 {f : Nat → Nat} {b : Nat} : ∀ {n : Nat}, b < n → (∀ k, k < n → k ≠ b → f k = 0) → su f n = f b
  | 0, h, _ => absurd h (Nat.not_lt_zero _)
  | n + 1, h, h0 => by
    by_cases e : n = b
    · subst e; rw [su, su_z (fun k hk => h0 k (by omega) (by omega)), Nat.zero_add]
    · rw [su, su_1 (show b < n by omega) (fun k hk hne => h0 k (by omega) hne), h0 n (Nat.lt_succ_self n) e, Nat.add_zero]
theorem su_sw (f : Nat → Nat → Nat) (N : Nat) : ∀ K, su (fun k => su (fun n => f k n) N) K = su (fun n => su (fun k => f k n) K) N
  | 0 => (su_z (fun _ _ => rfl)).symm
  | K + 1 => by
    rw [su, su_sw f N K]
    exact (su_add (fun n => su (fun k => f k n) K) (fun n => f K n) N).symm
abbrev uP (σ : Sg) (k n p : Nat) : Prop := n = sL σ k 0 ∧ p = sL σ k 1 ∧ dk σ n = 0 ∧ Bs σ n p = k + 1
def u1 (σ : Sg) (k n p : Nat) : Nat := if uP σ k n p then 1 else 0
theorem u1_0 {σ : Sg} {k n p : Nat} (h : ¬ uP σ k n p) : u1 σ k n p = 0 := if_neg h
theorem u1_k {σ : Sg} (hW : Wf σ) {k : Nat} (hk : k < sS σ) : su (fun n => su (fun p => u1 σ k n p) (sP σ)) 20 = if usd σ k then 1 else 0 := by
  have hL := hW.L hk
  rw [su_1 (b := sL σ k 0) hL.1 (fun n hn hne => su_z (fun p hp => u1_0 (fun z => hne z.1))), su_1 (b := sL σ k 1) hL.2.1 (fun p hp hne => u1_0 (fun z => hne z.2.1))]
  unfold u1
  by_cases e : usd σ k
  · rw [if_pos e, if_pos ⟨rfl, rfl, e.1, e.2⟩]
  · rw [if_neg e, if_neg (fun z => e ⟨z.2.2.1, z.2.2.2⟩)]
theorem u1_np {σ : Sg} (n p : Nat) : su (fun k => u1 σ k n p) (sS σ) = if dk σ n = 0 ∧ Bs σ n p ≠ 0 then 1 else 0 := by
  by_cases e : dk σ n = 0 ∧ Bs σ n p ≠ 0
  · rw [if_pos e]
    have h1 := Bs_le σ n p
    have h2 := sl_at (σ := σ) (n := n) (p := p) (u := us σ n p) e.2
    rw [su_1 (b := Bs σ n p - 1) (by omega) (fun k hk hne => u1_0 (fun z => by have := z.2.2.2; omega))]
    exact if_pos ⟨h2.1.symm, h2.2.1.symm, e.1, by omega⟩
  · rw [if_neg e]
    exact su_z (fun k hk => u1_0 (fun z => e ⟨z.2.2.1, by have := z.2.2.2; omega⟩))
theorem spl_su {σ : Sg} (n : Nat) : ∀ P, splN σ n P = su (fun p => if dk σ n = 0 ∧ Bs σ n p ≠ 0 then 1 else 0) P
  | 0 => rfl
  | P + 1 => by rw [splN, su, spl_su n P]
theorem us_su {σ : Sg} : ∀ K, usN σ K = su (fun k => if usd σ k then 1 else 0) K
  | 0 => rfl
  | K + 1 => by rw [usN, su, us_su K]
theorem us_spl {σ : Sg} (hW : Wf σ) : su (fun n => splN σ n (sP σ)) 20 = usN σ (sS σ) := by
  rw [us_su, su_c (fun k hk => (u1_k hW hk).symm), su_sw]
  refine su_c (fun n hn => ?_)
  rw [su_sw, spl_su]
  exact su_c (fun p hp => (u1_np n p).symm)
set_option maxRecDepth 100000 in
set_option maxHeartbeats 1000000 in
theorem c_X5_slipsThatPlay {l : Launch} {E : Ev} {hB b1 b2 b3 b4 b5 b6 b7 b8 b9 b10 : Nat} {c1 : Nat} {f : Nat → Int32} {σ : Sg} (hR : RepC σ f) (hW : Wf σ) {e1 e2 e3 par fre pri sls drk pla tks : Nat} {t1 t2 t3 : Nat → Int32} : Ct l E yX5_slipsThatPlay cX5_slipsThatPlay 3 (some FieldType.int) 4 95 [.ref hB] [(hB, .inr (5, [.ref b1, .ref b2, .ref b3, .ref b4, .ref b5, .ref b6, .ref b7, .ref b8, .ref b9, .ref b10])), (b1, .inr (4, [.ref c1])), (c1, .inl (eI E, 265, .inl f)), (b7, .inr (0, [.ref e1, .ref e2, .ref e3, .int (nI par), .int (nI fre), .int (nI pri), .int (nI sls), .int (nI drk), .int (nI pla), .int (nI tks)])), (e1, .inl (eI E, 6, .inl t1)), (e2, .inl (eI E, 6, .inl t2)), (e3, .inl (eI E, 6, .inl t3))] (fun v9 w9 => ∃ (par2 fre2 pri2 sls2 drk2 pla2 tks2 : Nat) (ta tb tc : Nat → Int32), v9 = some (.int (nI (usN σ (sS σ)))) ∧ w9 = [(hB, .inr (5, [.ref b1, .ref b2, .ref b3, .ref b4, .ref b5, .ref b6, .ref b7, .ref b8, .ref b9, .ref b10])), (b1, .inr (4, [.ref c1])), (c1, .inl (eI E, 265, .inl f)), (b7, .inr (0, [.ref e1, .ref e2, .ref e3, .int (nI par2), .int (nI fre2), .int (nI pri2), .int (nI sls2), .int (nI drk2), .int (nI pla2), .int (nI tks2)])), (e1, .inl (eI E, 6, .inl ta)), (e2, .inl (eI E, 6, .inl tb)), (e3, .inl (eI E, 6, .inl tc))]) := by
  have hwP := hW.P
  have hwA := hW.A
  have hwS := hW.S
  refine ct_of (by decide +kernel) (Nat.le_of_ble_eq_true rfl) (fun ω C RT => ?_)
  show ω [(hB, .inr (5, [.ref b1, .ref b2, .ref b3, .ref b4, .ref b5, .ref b6, .ref b7, .ref b8, .ref b9, .ref b10])), (b1, .inr (4, [.ref c1])), (c1, .inl (eI E, 265, .inl f)), (b7, .inr (0, [.ref e1, .ref e2, .ref e3, .int (nI par), .int (nI fre), .int (nI pri), .int (nI sls), .int (nI drk), .int (nI pla), .int (nI tks)])), (e1, .inl (eI E, 6, .inl t1)), (e2, .inl (eI E, 6, .inl t2)), (e3, .inl (eI E, 6, .inl t3))] [(0, .ref hB)] [] 0
  refine r_iconst C dX5_slipsThatPlay_0 ki_0 ?_
  refine r_istore_n C (lv' := [(1, .int (nI 0)), (0, .ref hB)]) dX5_slipsThatPlay_1 rfl (by decide) rfl ?_
  refine r_iconst C dX5_slipsThatPlay_2 ki_0 ?_
  refine r_istore_n C (lv' := [(2, .int (nI 0)), (1, .int (nI 0)), (0, .ref hB)]) dX5_slipsThatPlay_3 rfl (by decide) rfl ?_
  have loop4_1 : ∀ (dd9 : Nat) (n : Nat) (m : Nat) (u1 : Nat) (u2 : Nat) (u3 : Nat) (u4 : Nat) (u5 : Nat) (u6 : Nat) (u7 : Nat) (w1 : Nat → Int32) (w2 : Nat → Int32) (w3 : Nat → Int32), 20 - n < dd9 → (n ≤ 20) → (m = su (fun n => splN σ n (sP σ)) n) → (m ≤ 6 * n) → ω [(hB, .inr (5, [.ref b1, .ref b2, .ref b3, .ref b4, .ref b5, .ref b6, .ref b7, .ref b8, .ref b9, .ref b10])), (b1, .inr (4, [.ref c1])), (c1, .inl (eI E, 265, .inl f)), (b7, .inr (0, [.ref e1, .ref e2, .ref e3, .int (nI u1), .int (nI u2), .int (nI u3), .int (nI u4), .int (nI u5), .int (nI u6), .int (nI u7)])), (e1, .inl (eI E, 6, .inl w1)), (e2, .inl (eI E, 6, .inl w2)), (e3, .inl (eI E, 6, .inl w3))] [(2, .int (nI n)), (1, .int (nI m)), (0, .ref hB)] [] 4 := by
    intro dd9
    induction dd9 with
    | zero => intro n m u1 u2 u3 u4 u5 u6 u7 w1 w2 w3 hd; exact absurd hd (Nat.not_lt_zero _)
    | succ dd9 ih2 =>
      intro n m u1 u2 u3 u4 u5 u6 u7 w1 w2 w3 hd hn hm hml
      have hsp := splN_le σ n (sP σ)
      refine r_iload_n C (i := 2) 0 dX5_slipsThatPlay_4 rfl rfl ?_
      refine r_bipush C dX5_slipsThatPlay_5 kb_20 ?_
      refine r_icmp_ge C (c9 := 20 ≤ n) 38 dX5_slipsThatPlay_7 (by decide) (c_leNN (by omega) (by omega)) (fun h7_3 => ?_) (fun h7_3 => ?_)
      · refine r_iload_n C (i := 1) 1 dX5_slipsThatPlay_38 rfl rfl ?_
        exact RT.1 _ _ _ _ _ dX5_slipsThatPlay_39 rfl rfl (⟨_, _, _, _, _, _, _, _, _, _, sv (congrArg nI (by rw [hm, (by omega : n = 20), us_spl hW])), rfl⟩) rfl
      · refine r_aload_n C (i := 0) 2 dX5_slipsThatPlay_10 rfl rfl ?_
        refine r_get C 0 6 uX5 rfl rfl (by decide) w_1_134 rfl dX5_slipsThatPlay_11 ?_
        refine r_aload_n C (i := 0) 2 dX5_slipsThatPlay_14 rfl rfl ?_
        refine r_get C 0 0 uX5 rfl rfl (by decide) w_1_128 rfl dX5_slipsThatPlay_15 ?_
        refine r_iload_n C (i := 2) 0 dX5_slipsThatPlay_18 rfl rfl ?_
        refine r_callV (rest := []) C (c_X0_workOut (hE := b7) (e1 := e1) (e2 := e2) (e3 := e3) (par := u1) (fre := u2) (pri := u3) (sls := u4) (drk := u5) (pla := u6) (tks := u7) (t1 := w1) (t2 := w2) (t3 := w3) (h0 := b1) (q1 := c1) (f := f) (σ := σ) (n := n) (hR := hR) (hW := hW) (hn := (by omega))) lk_X0_workOut w_3_145 [3, 4, 5, 6, 1, 2] rfl dX5_slipsThatPlay_19 rfl rfl rfl rfl ⟨by decide, by decide⟩ (Nat.le_of_ble_eq_true rfl) ?_
        rintro _ _ ⟨par_4, fre_5, pri_6, sls_7, drk_8, pla_9, tks_10, ta_11, tb_12, tc_13, rfl, rfl, hEv_14⟩
        show ω [(hB, .inr (5, [.ref b1, .ref b2, .ref b3, .ref b4, .ref b5, .ref b6, .ref b7, .ref b8, .ref b9, .ref b10])), (b1, .inr (4, [.ref c1])), (c1, .inl (eI E, 265, .inl f)), (b7, .inr (0, [.ref e1, .ref e2, .ref e3, .int (nI par_4), .int (nI fre_5), .int (nI pri_6), .int (nI sls_7), .int (nI drk_8), .int (nI pla_9), .int (nI tks_10)])), (e1, .inl (eI E, 6, .inl ta_11)), (e2, .inl (eI E, 6, .inl tb_12)), (e3, .inl (eI E, 6, .inl tc_13))] [(2, .int (nI n)), (1, .int (nI m)), (0, .ref hB)] [] 22
        refine r_iload_n C (i := 1) 1 dX5_slipsThatPlay_22 rfl rfl ?_
        refine r_aload_n C (i := 0) 2 dX5_slipsThatPlay_23 rfl rfl ?_
        refine r_get C 0 6 uX5 rfl rfl (by decide) w_1_134 rfl dX5_slipsThatPlay_24 ?_
        refine r_readV (rest := [.int (nI m)]) C (c_X0_slipsPlayed (hE := b7) (e1 := e1) (e2 := e2) (e3 := e3) (par := par_4) (fre := fre_5) (pri := pri_6) (sls := sls_7) (drk := drk_8) (pla := pla_9) (tks := tks_10) (t1 := ta_11) (t2 := tb_12) (t3 := tc_13) (σ := σ) (n := n) (hEv := hEv_14) (hW := hW)) lk_X0_slipsPlayed w_3_167 [3, 4, 5, 6] rfl dX5_slipsThatPlay_27 rfl rfl rfl rfl ⟨by decide, by decide⟩ (Nat.le_of_ble_eq_true rfl) (st' := [.int (nI (splN σ n (sP σ))), .int (nI m)]) rfl ?_
        refine r_iadd (v := nI (m + (splN σ n (sP σ)))) C dX5_slipsThatPlay_30 (nI_add _ _) ?_
        refine r_istore_n C (lv' := [(1, .int (nI (m + (splN σ n (sP σ))))), (2, .int (nI n)), (0, .ref hB)]) dX5_slipsThatPlay_31 rfl (by decide) rfl ?_
        refine r_iinc C (lv' := [(2, .int (nI (n + 1))), (1, .int (nI (m + (splN σ n (sP σ))))), (0, .ref hB)]) (v := nI (n + 1)) 1 dX5_slipsThatPlay_32 rfl (v_inc _) (by decide) rfl ?_
        refine r_goto C 4 dX5_slipsThatPlay_35 (by decide) ?_
        exact ih2 (n + 1) (m + (splN σ n (sP σ))) par_4 fre_5 pri_6 sls_7 drk_8 pla_9 tks_10 ta_11 tb_12 tc_13 (by omega) (by omega) (by rw [su, hm]) (by have := splN_le σ n (sP σ); omega)
  exact loop4_1 _ 0 0 par fre pri sls drk pla tks t1 t2 t3 (Nat.lt_succ_self _) (by omega) rfl (by omega)
set_option maxRecDepth 100000 in
set_option maxHeartbeats 1000000 in
theorem c_X5_about__6 {l : Launch} {E : Ev} {hB b1 b2 b3 b4 b5 b6 b7 b8 b9 b10 : Nat} {c1 : Nat} {f : Nat → Int32} {σ : Sg} (hR : RepC σ f) (hW : Wf σ) {e1 e2 e3 par fre pri sls drk pla tks : Nat} {t1 t2 t3 : Nat → Int32} : Ct l E yX5_about cX5_about 2 (some FieldType.int) 6 117 [.ref hB, .int (nI 6)] [(hB, .inr (5, [.ref b1, .ref b2, .ref b3, .ref b4, .ref b5, .ref b6, .ref b7, .ref b8, .ref b9, .ref b10])), (b1, .inr (4, [.ref c1])), (c1, .inl (eI E, 265, .inl f)), (b7, .inr (0, [.ref e1, .ref e2, .ref e3, .int (nI par), .int (nI fre), .int (nI pri), .int (nI sls), .int (nI drk), .int (nI pla), .int (nI tks)])), (e1, .inl (eI E, 6, .inl t1)), (e2, .inl (eI E, 6, .inl t2)), (e3, .inl (eI E, 6, .inl t3))] (fun v9 w9 => ∃ (par2 fre2 pri2 sls2 drk2 pla2 tks2 : Nat) (ta tb tc : Nat → Int32), v9 = some (.int (nI (usN σ (sS σ)))) ∧ w9 = [(hB, .inr (5, [.ref b1, .ref b2, .ref b3, .ref b4, .ref b5, .ref b6, .ref b7, .ref b8, .ref b9, .ref b10])), (b1, .inr (4, [.ref c1])), (c1, .inl (eI E, 265, .inl f)), (b7, .inr (0, [.ref e1, .ref e2, .ref e3, .int (nI par2), .int (nI fre2), .int (nI pri2), .int (nI sls2), .int (nI drk2), .int (nI pla2), .int (nI tks2)])), (e1, .inl (eI E, 6, .inl ta)), (e2, .inl (eI E, 6, .inl tb)), (e3, .inl (eI E, 6, .inl tc))]) := by
  have hwP := hW.P
  have hwA := hW.A
  have hwS := hW.S
  refine ct_of (by decide +kernel) (Nat.le_of_ble_eq_true rfl) (fun ω C RT => ?_)
  show ω [(hB, .inr (5, [.ref b1, .ref b2, .ref b3, .ref b4, .ref b5, .ref b6, .ref b7, .ref b8, .ref b9, .ref b10])), (b1, .inr (4, [.ref c1])), (c1, .inl (eI E, 265, .inl f)), (b7, .inr (0, [.ref e1, .ref e2, .ref e3, .int (nI par), .int (nI fre), .int (nI pri), .int (nI sls), .int (nI drk), .int (nI pla), .int (nI tks)])), (e1, .inl (eI E, 6, .inl t1)), (e2, .inl (eI E, 6, .inl t2)), (e3, .inl (eI E, 6, .inl t3))] [(0, .ref hB), (1, .int (nI 6))] [] 0
  refine r_iload_n C (i := 1) 1 dX5_about_0 rfl rfl ?_
  refine r_tabIn (off := 110) C 111 dX5_about_1 (by decide) (by decide) (by decide) (by decide) ?_
  refine r_aload_n C (i := 0) 0 dX5_about_111 rfl rfl ?_
  refine r_callV (rest := []) C (c_X5_slipsThatPlay (hB := hB) (b1 := b1) (b2 := b2) (b3 := b3) (b4 := b4) (b5 := b5) (b6 := b6) (b7 := b7) (b8 := b8) (b9 := b9) (b10 := b10) (c1 := c1) (f := f) (σ := σ) (e1 := e1) (e2 := e2) (e3 := e3) (par := par) (fre := fre) (pri := pri) (sls := sls) (drk := drk) (pla := pla) (tks := tks) (t1 := t1) (t2 := t2) (t3 := t3) (hR := hR) (hW := hW)) lk_X5_slipsThatPlay w_3_163 [0, 1, 2, 3, 4, 5, 6] rfl dX5_about_112 rfl rfl rfl rfl ⟨by decide, by decide⟩ (Nat.le_of_ble_eq_true rfl) ?_
  rintro _ _ ⟨par_1, fre_2, pri_3, sls_4, drk_5, pla_6, tks_7, ta_8, tb_9, tc_10, rfl, rfl⟩
  show ω [(hB, .inr (5, [.ref b1, .ref b2, .ref b3, .ref b4, .ref b5, .ref b6, .ref b7, .ref b8, .ref b9, .ref b10])), (b1, .inr (4, [.ref c1])), (c1, .inl (eI E, 265, .inl f)), (b7, .inr (0, [.ref e1, .ref e2, .ref e3, .int (nI par_1), .int (nI fre_2), .int (nI pri_3), .int (nI sls_4), .int (nI drk_5), .int (nI pla_6), .int (nI tks_7)])), (e1, .inl (eI E, 6, .inl ta_8)), (e2, .inl (eI E, 6, .inl tb_9)), (e3, .inl (eI E, 6, .inl tc_10))] [(0, .ref hB), (1, .int (nI 6))] [.int (nI (usN σ (sS σ)))] 115
  exact RT.1 _ _ _ _ _ dX5_about_115 rfl rfl (⟨_, _, _, _, _, _, _, _, _, _, rfl, rfl⟩) rfl
set_option maxRecDepth 100000 in
set_option maxHeartbeats 1000000 in
theorem c_X5_hasBillBefore {l : Launch} {E : Ev} {hB b1 b2 b3 b4 b5 b6 b7 b8 b9 b10 : Nat} {bl : Nat → Int32} {σ : Sg} {n x : Nat} (hn : n < 20) (hx : x < 2147483648) (hbl : ∀ j, j < n → bl j = mI (blm σ j)) (hbb : ∀ j, j < 20 → blm σ j ≤ 1000000) : Cr l E yX5_hasBillBefore cX5_hasBillBefore 4 (some FieldType.boolean) 0 0 [.ref hB, .int (nI n), .int (mI x)] [(hB, .inr (5, [.ref b1, .ref b2, .ref b3, .ref b4, .ref b5, .ref b6, .ref b7, .ref b8, .ref b9, .ref b10])), (b10, .inl (eI E, 20, .inl bl))] (some (.int (bP (¬ (∀ j, j < n → blm σ j ≠ x))))) := by
  refine ct_of (by decide +kernel) (Nat.le_of_ble_eq_true rfl) (fun ω C RT => ?_)
  show ω [(hB, .inr (5, [.ref b1, .ref b2, .ref b3, .ref b4, .ref b5, .ref b6, .ref b7, .ref b8, .ref b9, .ref b10])), (b10, .inl (eI E, 20, .inl bl))] [(0, .ref hB), (1, .int (nI n)), (2, .int (mI x))] [] 0
  refine r_iconst C dX5_hasBillBefore_0 ki_0 ?_
  refine r_istore_n C (lv' := [(3, .int (nI 0)), (0, .ref hB), (1, .int (nI n)), (2, .int (mI x))]) dX5_hasBillBefore_1 rfl (by decide) rfl ?_
  have loop2_1 : ∀ (dd9 : Nat) (i : Nat), n - i < dd9 → (i ≤ n) → (∀ j, j < i → blm σ j ≠ x) → ω [(hB, .inr (5, [.ref b1, .ref b2, .ref b3, .ref b4, .ref b5, .ref b6, .ref b7, .ref b8, .ref b9, .ref b10])), (b10, .inl (eI E, 20, .inl bl))] [(3, .int (nI i)), (0, .ref hB), (1, .int (nI n)), (2, .int (mI x))] [] 2 := by
    intro dd9
    induction dd9 with
    | zero => intro i hd; exact absurd hd (Nat.not_lt_zero _)
    | succ dd9 ih2 =>
      intro i hd hi hno
      refine r_iload_n C (i := 3) 0 dX5_hasBillBefore_2 rfl rfl ?_
      refine r_iload_n C (i := 1) 2 dX5_hasBillBefore_3 rfl rfl ?_
      refine r_icmp_ge C (c9 := n ≤ i) 31 dX5_hasBillBefore_4 (by decide) (c_leNN (by omega) (by omega)) (fun h4_3 => ?_) (fun h4_3 => ?_)
      · refine r_iconst C dX5_hasBillBefore_31 ki_0 ?_
        exact RT.1 _ _ _ _ _ dX5_hasBillBefore_32 rfl nar_0 (rd_i (bP_f (fun z => z (fun j hj => hno j (by omega))))) rfl
      · refine r_iload_n C (i := 3) 0 dX5_hasBillBefore_7 rfl rfl ?_
        refine r_bipush C dX5_hasBillBefore_8 kb_20 ?_
        refine r_icmp_ge C (c9 := 20 ≤ i) 31 dX5_hasBillBefore_10 (by decide) (c_leNN (by omega) (by omega)) (fun h10_4 => ?_) (fun h10_4 => ?_)
        · refine r_iconst C dX5_hasBillBefore_31 ki_0 ?_
          exact RT.1 _ _ _ _ _ dX5_hasBillBefore_32 rfl nar_0 (rd_i (bP_f (fun z => z (fun j hj => hno j (by omega))))) rfl
        · refine r_aload_n C (i := 0) 1 dX5_hasBillBefore_13 rfl rfl ?_
          refine r_get C 0 9 uX5 rfl rfl (by decide) w_1_137 rfl dX5_hasBillBefore_14 ?_
          refine r_iload_n C (i := 3) 0 dX5_hasBillBefore_17 rfl rfl ?_
          have hb1 := hbb i (by omega)
          refine r_iald (j := i) (v := mI (blm σ i)) C 1 rfl (by omega) (by decide) (hbl i (by omega)) dX5_hasBillBefore_18 ?_
          refine r_iload_n C (i := 2) 3 dX5_hasBillBefore_19 rfl rfl ?_
          refine r_icmp_ne C (c9 := blm σ i ≠ x) 25 dX5_hasBillBefore_20 (by decide) (c_neMM (by omega) (by omega)) (fun h20_5 => ?_) (fun h20_5 => ?_)
          · refine r_iinc C (lv' := [(3, .int (nI (i + 1))), (0, .ref hB), (1, .int (nI n)), (2, .int (mI x))]) (v := nI (i + 1)) 0 dX5_hasBillBefore_25 rfl (v_inc _) (by decide) rfl ?_
            refine r_goto C 2 dX5_hasBillBefore_28 (by decide) ?_
            exact ih2 (i + 1) (by omega) (by omega) (lt_step hno (by omega))
          · refine r_iconst C dX5_hasBillBefore_23 ki_1 ?_
            exact RT.1 _ _ _ _ _ dX5_hasBillBefore_24 rfl nar_1 (rd_i (bP_t (fun z => z i (by omega) (by omega)))) rfl
  exact loop2_1 _ 0 (Nat.lt_succ_self _) (by omega) (fun j hj => absurd hj (Nat.not_lt_zero j))
theorem blm_le {σ : Sg} (hW : Wf σ) {n : Nat} (hn : n < 20) : blm σ n ≤ 1000000 := by
  have h2 := biN_lt hW hn (Nat.le_refl (sP σ))
  have h3 : 10 ^ sP σ ≤ 10 ^ 6 := Nat.pow_le_pow_right (by decide) hW.P
  unfold blm
  split <;> omega
set_option maxRecDepth 100000 in
set_option maxHeartbeats 1000000 in
theorem c_X5_unlikeBills {l : Launch} {E : Ev} {hB b1 b2 b3 b4 b5 b6 b7 b8 b9 b10 : Nat} {c1 : Nat} {f : Nat → Int32} {σ : Sg} (hR : RepC σ f) (hW : Wf σ) {bl : Nat → Int32} {e1 e2 e3 par fre pri sls drk pla tks : Nat} {t1 t2 t3 : Nat → Int32} : Ct l E yX5_unlikeBills cX5_unlikeBills 3 (some FieldType.int) 4 95 [.ref hB] [(hB, .inr (5, [.ref b1, .ref b2, .ref b3, .ref b4, .ref b5, .ref b6, .ref b7, .ref b8, .ref b9, .ref b10])), (b1, .inr (4, [.ref c1])), (c1, .inl (eI E, 265, .inl f)), (b7, .inr (0, [.ref e1, .ref e2, .ref e3, .int (nI par), .int (nI fre), .int (nI pri), .int (nI sls), .int (nI drk), .int (nI pla), .int (nI tks)])), (e1, .inl (eI E, 6, .inl t1)), (e2, .inl (eI E, 6, .inl t2)), (e3, .inl (eI E, 6, .inl t3)), (b10, .inl (eI E, 20, .inl bl))] (fun v9 w9 => ∃ (par2 fre2 pri2 sls2 drk2 pla2 tks2 : Nat) (ta tb tc bl2 : Nat → Int32), v9 = some (.int (nI (unlN σ 20))) ∧ w9 = [(hB, .inr (5, [.ref b1, .ref b2, .ref b3, .ref b4, .ref b5, .ref b6, .ref b7, .ref b8, .ref b9, .ref b10])), (b1, .inr (4, [.ref c1])), (c1, .inl (eI E, 265, .inl f)), (b7, .inr (0, [.ref e1, .ref e2, .ref e3, .int (nI par2), .int (nI fre2), .int (nI pri2), .int (nI sls2), .int (nI drk2), .int (nI pla2), .int (nI tks2)])), (e1, .inl (eI E, 6, .inl ta)), (e2, .inl (eI E, 6, .inl tb)), (e3, .inl (eI E, 6, .inl tc)), (b10, .inl (eI E, 20, .inl bl2))]) := by
  have hwP := hW.P
  have hwA := hW.A
  have hwS := hW.S
  have hbb : ∀ j, j < 20 → blm σ j ≤ 1000000 := fun j hj => blm_le hW hj
  refine ct_of (by decide +kernel) (Nat.le_of_ble_eq_true rfl) (fun ω C RT => ?_)
  show ω [(hB, .inr (5, [.ref b1, .ref b2, .ref b3, .ref b4, .ref b5, .ref b6, .ref b7, .ref b8, .ref b9, .ref b10])), (b1, .inr (4, [.ref c1])), (c1, .inl (eI E, 265, .inl f)), (b7, .inr (0, [.ref e1, .ref e2, .ref e3, .int (nI par), .int (nI fre), .int (nI pri), .int (nI sls), .int (nI drk), .int (nI pla), .int (nI tks)])), (e1, .inl (eI E, 6, .inl t1)), (e2, .inl (eI E, 6, .inl t2)), (e3, .inl (eI E, 6, .inl t3)), (b10, .inl (eI E, 20, .inl bl))] [(0, .ref hB)] [] 0
  refine r_iconst C dX5_unlikeBills_0 ki_0 ?_
  refine r_istore_n C (lv' := [(1, .int (nI 0)), (0, .ref hB)]) dX5_unlikeBills_1 rfl (by decide) rfl ?_
  refine r_iconst C dX5_unlikeBills_2 ki_0 ?_
  refine r_istore_n C (lv' := [(2, .int (nI 0)), (1, .int (nI 0)), (0, .ref hB)]) dX5_unlikeBills_3 rfl (by decide) rfl ?_
  have loop4_1 : ∀ (dd9 : Nat) (n : Nat) (m : Nat) (bl : Nat → Int32) (u1 : Nat) (u2 : Nat) (u3 : Nat) (u4 : Nat) (u5 : Nat) (u6 : Nat) (u7 : Nat) (w1 : Nat → Int32) (w2 : Nat → Int32) (w3 : Nat → Int32), 20 - n < dd9 → (n ≤ 20) → (m = unlN σ n) → (∀ j, j < n → bl j = mI (blm σ j)) → ω [(hB, .inr (5, [.ref b1, .ref b2, .ref b3, .ref b4, .ref b5, .ref b6, .ref b7, .ref b8, .ref b9, .ref b10])), (b1, .inr (4, [.ref c1])), (c1, .inl (eI E, 265, .inl f)), (b7, .inr (0, [.ref e1, .ref e2, .ref e3, .int (nI u1), .int (nI u2), .int (nI u3), .int (nI u4), .int (nI u5), .int (nI u6), .int (nI u7)])), (e1, .inl (eI E, 6, .inl w1)), (e2, .inl (eI E, 6, .inl w2)), (e3, .inl (eI E, 6, .inl w3)), (b10, .inl (eI E, 20, .inl bl))] [(2, .int (nI n)), (1, .int (nI m)), (0, .ref hB)] [] 4 := by
    intro dd9
    induction dd9 with
    | zero => intro n m bl u1 u2 u3 u4 u5 u6 u7 w1 w2 w3 hd; exact absurd hd (Nat.not_lt_zero _)
    | succ dd9 ih2 =>
      intro n m bl u1 u2 u3 u4 u5 u6 u7 w1 w2 w3 hd hn hm hbl
      have hml := unlN_le σ n
      refine r_iload_n C (i := 2) 0 dX5_unlikeBills_4 rfl rfl ?_
      refine r_bipush C dX5_unlikeBills_5 kb_20 ?_
      refine r_icmp_ge C (c9 := 20 ≤ n) 82 dX5_unlikeBills_7 (by decide) (c_leNN (by omega) (by omega)) (fun h7_3 => ?_) (fun h7_3 => ?_)
      · refine r_iload_n C (i := 1) 1 dX5_unlikeBills_82 rfl rfl ?_
        exact RT.1 _ _ _ _ _ dX5_unlikeBills_83 rfl rfl (⟨_, _, _, _, _, _, _, _, _, _, _, sv (congrArg nI (by rw [hm, (by omega : n = 20)])), rfl⟩) rfl
      · refine r_aload_n C (i := 0) 2 dX5_unlikeBills_10 rfl rfl ?_
        refine r_get C 0 6 uX5 rfl rfl (by decide) w_1_134 rfl dX5_unlikeBills_11 ?_
        refine r_aload_n C (i := 0) 2 dX5_unlikeBills_14 rfl rfl ?_
        refine r_get C 0 0 uX5 rfl rfl (by decide) w_1_128 rfl dX5_unlikeBills_15 ?_
        refine r_iload_n C (i := 2) 0 dX5_unlikeBills_18 rfl rfl ?_
        refine r_callV (rest := []) C (c_X0_workOut (hE := b7) (e1 := e1) (e2 := e2) (e3 := e3) (par := u1) (fre := u2) (pri := u3) (sls := u4) (drk := u5) (pla := u6) (tks := u7) (t1 := w1) (t2 := w2) (t3 := w3) (h0 := b1) (q1 := c1) (f := f) (σ := σ) (n := n) (hR := hR) (hW := hW) (hn := (by omega))) lk_X0_workOut w_3_145 [3, 4, 5, 6, 1, 2] rfl dX5_unlikeBills_19 rfl rfl rfl rfl ⟨by decide, by decide⟩ (Nat.le_of_ble_eq_true rfl) ?_
        rintro _ _ ⟨par_4, fre_5, pri_6, sls_7, drk_8, pla_9, tks_10, ta_11, tb_12, tc_13, rfl, rfl, hEv_14⟩
        show ω [(hB, .inr (5, [.ref b1, .ref b2, .ref b3, .ref b4, .ref b5, .ref b6, .ref b7, .ref b8, .ref b9, .ref b10])), (b1, .inr (4, [.ref c1])), (c1, .inl (eI E, 265, .inl f)), (b7, .inr (0, [.ref e1, .ref e2, .ref e3, .int (nI par_4), .int (nI fre_5), .int (nI pri_6), .int (nI sls_7), .int (nI drk_8), .int (nI pla_9), .int (nI tks_10)])), (e1, .inl (eI E, 6, .inl ta_11)), (e2, .inl (eI E, 6, .inl tb_12)), (e3, .inl (eI E, 6, .inl tc_13)), (b10, .inl (eI E, 20, .inl bl))] [(2, .int (nI n)), (1, .int (nI m)), (0, .ref hB)] [] 22
        refine r_aload_n C (i := 0) 2 dX5_unlikeBills_22 rfl rfl ?_
        refine r_get C 0 9 uX5 rfl rfl (by decide) w_1_137 rfl dX5_unlikeBills_23 ?_
        refine r_iload_n C (i := 2) 0 dX5_unlikeBills_26 rfl rfl ?_
        refine r_aload_n C (i := 0) 2 dX5_unlikeBills_27 rfl rfl ?_
        refine r_get C 0 6 uX5 rfl rfl (by decide) w_1_134 rfl dX5_unlikeBills_28 ?_
        refine r_readV (rest := [.int (nI n), .ref b10]) C (c_X0_isDark (hE := b7) (e1 := e1) (e2 := e2) (e3 := e3) (par := par_4) (fre := fre_5) (pri := pri_6) (sls := sls_7) (drk := drk_8) (pla := pla_9) (tks := tks_10) (t1 := ta_11) (t2 := tb_12) (t3 := tc_13) (σ := σ) (n := n) (hEv := hEv_14) (hW := hW)) lk_X0_isDark w_3_146 [3, 4, 5, 6] rfl dX5_unlikeBills_31 rfl rfl rfl rfl ⟨by decide, by decide⟩ (Nat.le_of_ble_eq_true rfl) (st' := [.int (nI (dk σ n)), .int (nI n), .ref b10]) rfl ?_
        have join48_15 : ∀ (bb : Nat), (bb = blm σ n) → ω [(hB, .inr (5, [.ref b1, .ref b2, .ref b3, .ref b4, .ref b5, .ref b6, .ref b7, .ref b8, .ref b9, .ref b10])), (b1, .inr (4, [.ref c1])), (c1, .inl (eI E, 265, .inl f)), (b7, .inr (0, [.ref e1, .ref e2, .ref e3, .int (nI par_4), .int (nI fre_5), .int (nI pri_6), .int (nI sls_7), .int (nI drk_8), .int (nI pla_9), .int (nI tks_10)])), (e1, .inl (eI E, 6, .inl ta_11)), (e2, .inl (eI E, 6, .inl tb_12)), (e3, .inl (eI E, 6, .inl tc_13)), (b10, .inl (eI E, 20, .inl bl))] [(2, .int (nI n)), (1, .int (nI m)), (0, .ref hB)] [.int (mI bb), .int (nI n), .ref b10] 48 := by
          intro bb hbb2
          refine r_iast (j := n) (ws' := [(hB, .inr (5, [.ref b1, .ref b2, .ref b3, .ref b4, .ref b5, .ref b6, .ref b7, .ref b8, .ref b9, .ref b10])), (b1, .inr (4, [.ref c1])), (c1, .inl (eI E, 265, .inl f)), (b7, .inr (0, [.ref e1, .ref e2, .ref e3, .int (nI par_4), .int (nI fre_5), .int (nI pri_6), .int (nI sls_7), .int (nI drk_8), .int (nI pla_9), .int (nI tks_10)])), (e1, .inl (eI E, 6, .inl ta_11)), (e2, .inl (eI E, 6, .inl tb_12)), (e3, .inl (eI E, 6, .inl tc_13)), (b10, .inl (eI E, 20, .inl (upd bl n (mI bb))))]) C 7 rfl (by omega) (by decide) rfl dX5_unlikeBills_48 ?_
          refine r_ws (ws' := [(hB, .inr (5, [.ref b1, .ref b2, .ref b3, .ref b4, .ref b5, .ref b6, .ref b7, .ref b8, .ref b9, .ref b10])), (b1, .inr (4, [.ref c1])), (c1, .inl (eI E, 265, .inl f)), (b7, .inr (0, [.ref e1, .ref e2, .ref e3, .int (nI par_4), .int (nI fre_5), .int (nI pri_6), .int (nI sls_7), .int (nI drk_8), .int (nI pla_9), .int (nI tks_10)])), (e1, .inl (eI E, 6, .inl ta_11)), (e2, .inl (eI E, 6, .inl tb_12)), (e3, .inl (eI E, 6, .inl tc_13)), (b10, .inl (eI E, 20, .inl (upd bl n (mI (blm σ n)))))]) (by rw [hbb2]) ?_
          have hb1 := hbb n (by omega)
          have hbl17 : ∀ j, j < n → (upd bl n (mI (blm σ n))) j = mI (blm σ j) := fun j hj => (pk_un (by omega)).trans (hbl j hj)
          have hbs16 : ∀ j, j < n + 1 → upd bl n (mI (blm σ n)) j = mI (blm σ j) := lt_step hbl17 pk_us
          refine r_aload_n C (i := 0) 2 dX5_unlikeBills_49 rfl rfl ?_
          refine r_get C 0 9 uX5 rfl rfl (by decide) w_1_137 rfl dX5_unlikeBills_50 ?_
          refine r_iload_n C (i := 2) 0 dX5_unlikeBills_53 rfl rfl ?_
          refine r_iald (j := n) (v := mI (blm σ n)) C 7 rfl (by omega) (by decide) pk_us dX5_unlikeBills_54 ?_
          refine r_iconst C dX5_unlikeBills_55 ki_m1 ?_
          refine r_icmp_eq C (c9 := blm σ n = 0) 76 dX5_unlikeBills_56 (by decide) (c_eqMM (by omega) (by omega)) (fun h56_18 => ?_) (fun h56_18 => ?_)
          · refine r_iinc C (lv' := [(2, .int (nI (n + 1))), (1, .int (nI m)), (0, .ref hB)]) (v := nI (n + 1)) 0 dX5_unlikeBills_76 rfl (v_inc _) (by decide) rfl ?_
            refine r_goto C 4 dX5_unlikeBills_79 (by decide) ?_
            exact ih2 (n + 1) m (upd bl n (mI (blm σ n))) par_4 fre_5 pri_6 sls_7 drk_8 pla_9 tks_10 ta_11 tb_12 tc_13 (by omega) (by omega) (by rw [unlN, if_neg (fun z => z.1 (by omega)), Nat.add_zero, hm]) hbs16
          · refine r_aload_n C (i := 0) 2 dX5_unlikeBills_59 rfl rfl ?_
            refine r_iload_n C (i := 2) 0 dX5_unlikeBills_60 rfl rfl ?_
            refine r_aload_n C (i := 0) 2 dX5_unlikeBills_61 rfl rfl ?_
            refine r_get C 0 9 uX5 rfl rfl (by decide) w_1_137 rfl dX5_unlikeBills_62 ?_
            refine r_iload_n C (i := 2) 0 dX5_unlikeBills_65 rfl rfl ?_
            refine r_iald (j := n) (v := mI (blm σ n)) C 7 rfl (by omega) (by decide) pk_us dX5_unlikeBills_66 ?_
            refine r_readV (rest := []) C (c_X5_hasBillBefore (hB := hB) (b1 := b1) (b2 := b2) (b3 := b3) (b4 := b4) (b5 := b5) (b6 := b6) (b7 := b7) (b8 := b8) (b9 := b9) (b10 := b10) (bl := upd bl n (mI (blm σ n))) (σ := σ) (n := n) (x := blm σ n) (hn := (by omega)) (hx := (by omega)) (hbl := hbl17) (hbb := hbb)) lk_X5_hasBillBefore w_3_159 [0, 7] rfl dX5_unlikeBills_67 rfl rfl rfl rfl ⟨by decide, by decide⟩ (Nat.le_of_ble_eq_true rfl) (st' := [.int (bP (¬ (∀ j, j < n → blm σ j ≠ (blm σ n))))]) rfl ?_
            refine r_if_ne C (y := 0) (c9 := ¬ (∀ j, j < n → blm σ j ≠ (blm σ n))) 76 dX5_unlikeBills_70 (by decide) z_neB (fun h70_19 => ?_) (fun h70_19 => ?_)
            · refine r_iinc C (lv' := [(2, .int (nI (n + 1))), (1, .int (nI m)), (0, .ref hB)]) (v := nI (n + 1)) 0 dX5_unlikeBills_76 rfl (v_inc _) (by decide) rfl ?_
              refine r_goto C 4 dX5_unlikeBills_79 (by decide) ?_
              exact ih2 (n + 1) m (upd bl n (mI (blm σ n))) par_4 fre_5 pri_6 sls_7 drk_8 pla_9 tks_10 ta_11 tb_12 tc_13 (by omega) (by omega) (by rw [unlN, if_neg (fun z => h70_19 z.2), Nat.add_zero, hm]) hbs16
            · replace h70_19 : ∀ j, j < n → blm σ j ≠ (blm σ n) := Decidable.not_not.mp h70_19
              refine r_iinc C (lv' := [(1, .int (nI (m + 1))), (2, .int (nI n)), (0, .ref hB)]) (v := nI (m + 1)) 1 dX5_unlikeBills_73 rfl (v_inc _) (by decide) rfl ?_
              refine r_iinc C (lv' := [(2, .int (nI (n + 1))), (1, .int (nI (m + 1))), (0, .ref hB)]) (v := nI (n + 1)) 1 dX5_unlikeBills_76 rfl (v_inc _) (by decide) rfl ?_
              refine r_goto C 4 dX5_unlikeBills_79 (by decide) ?_
              exact ih2 (n + 1) (m + 1) (upd bl n (mI (blm σ n))) par_4 fre_5 pri_6 sls_7 drk_8 pla_9 tks_10 ta_11 tb_12 tc_13 (by omega) (by omega) (by rw [unlN, if_pos ⟨by omega, h70_19⟩, hm]) hbs16
        have hdl := dk_le σ n
        refine r_if_eq C (y := 0) (c9 := dk σ n = 0) 41 dX5_unlikeBills_34 (by decide) (z_eqN (by omega)) (fun h34_20 => ?_) (fun h34_20 => ?_)
        · have hd021 : dk σ n = 0 := by omega
          refine r_aload_n C (i := 0) 2 dX5_unlikeBills_41 rfl rfl ?_
          refine r_get C 0 6 uX5 rfl rfl (by decide) w_1_134 rfl dX5_unlikeBills_42 ?_
          refine r_readV (rest := [.int (nI n), .ref b10]) C (c_X0_billAsNumber (hE := b7) (e1 := e1) (e2 := e2) (e3 := e3) (par := par_4) (fre := fre_5) (pri := pri_6) (sls := sls_7) (drk := drk_8) (pla := pla_9) (tks := tks_10) (t1 := ta_11) (t2 := tb_12) (t3 := tc_13) (σ := σ) (n := n) (hEv := hEv_14) (hW := hW) (hn := (by omega)) (hd0 := hd021)) lk_X0_billAsNumber w_3_147 [3, 4, 5, 6] rfl dX5_unlikeBills_45 rfl rfl rfl rfl ⟨by decide, by decide⟩ (Nat.le_of_ble_eq_true rfl) (st' := [.int (nI (biN σ n (sP σ))), .int (nI n), .ref b10]) rfl ?_
          refine r_st (st' := [.int (mI (biN σ n (sP σ) + 1)), .int (nI n), .ref b10]) (by rw [mI_s]) ?_
          exact join48_15 (biN σ n (sP σ) + 1) (by rw [blm, if_pos (by omega)])
        · refine r_iconst C dX5_unlikeBills_37 ki_m1 ?_
          refine r_goto C 48 dX5_unlikeBills_38 (by decide) ?_
          exact join48_15 0 (by rw [blm, if_neg (by omega)])
  exact loop4_1 _ 0 0 bl par fre pri sls drk pla tks t1 t2 t3 (Nat.lt_succ_self _) (by omega) rfl (fun j hj => absurd hj (Nat.not_lt_zero j))
set_option maxRecDepth 100000 in
set_option maxHeartbeats 1000000 in
theorem c_X5_about__5 {l : Launch} {E : Ev} {hB b1 b2 b3 b4 b5 b6 b7 b8 b9 b10 : Nat} {c1 : Nat} {f : Nat → Int32} {σ : Sg} (hR : RepC σ f) (hW : Wf σ) {bl : Nat → Int32} {e1 e2 e3 par fre pri sls drk pla tks : Nat} {t1 t2 t3 : Nat → Int32} : Ct l E yX5_about cX5_about 2 (some FieldType.int) 6 117 [.ref hB, .int (nI 5)] [(hB, .inr (5, [.ref b1, .ref b2, .ref b3, .ref b4, .ref b5, .ref b6, .ref b7, .ref b8, .ref b9, .ref b10])), (b1, .inr (4, [.ref c1])), (c1, .inl (eI E, 265, .inl f)), (b7, .inr (0, [.ref e1, .ref e2, .ref e3, .int (nI par), .int (nI fre), .int (nI pri), .int (nI sls), .int (nI drk), .int (nI pla), .int (nI tks)])), (e1, .inl (eI E, 6, .inl t1)), (e2, .inl (eI E, 6, .inl t2)), (e3, .inl (eI E, 6, .inl t3)), (b10, .inl (eI E, 20, .inl bl))] (fun v9 w9 => ∃ (par2 fre2 pri2 sls2 drk2 pla2 tks2 : Nat) (ta tb tc bl2 : Nat → Int32), v9 = some (.int (nI (unlN σ 20))) ∧ w9 = [(hB, .inr (5, [.ref b1, .ref b2, .ref b3, .ref b4, .ref b5, .ref b6, .ref b7, .ref b8, .ref b9, .ref b10])), (b1, .inr (4, [.ref c1])), (c1, .inl (eI E, 265, .inl f)), (b7, .inr (0, [.ref e1, .ref e2, .ref e3, .int (nI par2), .int (nI fre2), .int (nI pri2), .int (nI sls2), .int (nI drk2), .int (nI pla2), .int (nI tks2)])), (e1, .inl (eI E, 6, .inl ta)), (e2, .inl (eI E, 6, .inl tb)), (e3, .inl (eI E, 6, .inl tc)), (b10, .inl (eI E, 20, .inl bl2))]) := by
  have hwP := hW.P
  have hwA := hW.A
  have hwS := hW.S
  refine ct_of (by decide +kernel) (Nat.le_of_ble_eq_true rfl) (fun ω C RT => ?_)
  show ω [(hB, .inr (5, [.ref b1, .ref b2, .ref b3, .ref b4, .ref b5, .ref b6, .ref b7, .ref b8, .ref b9, .ref b10])), (b1, .inr (4, [.ref c1])), (c1, .inl (eI E, 265, .inl f)), (b7, .inr (0, [.ref e1, .ref e2, .ref e3, .int (nI par), .int (nI fre), .int (nI pri), .int (nI sls), .int (nI drk), .int (nI pla), .int (nI tks)])), (e1, .inl (eI E, 6, .inl t1)), (e2, .inl (eI E, 6, .inl t2)), (e3, .inl (eI E, 6, .inl t3)), (b10, .inl (eI E, 20, .inl bl))] [(0, .ref hB), (1, .int (nI 5))] [] 0
  refine r_iload_n C (i := 1) 1 dX5_about_0 rfl rfl ?_
  refine r_tabIn (off := 105) C 106 dX5_about_1 (by decide) (by decide) (by decide) (by decide) ?_
  refine r_aload_n C (i := 0) 0 dX5_about_106 rfl rfl ?_
  refine r_callV (rest := []) C (c_X5_unlikeBills (hB := hB) (b1 := b1) (b2 := b2) (b3 := b3) (b4 := b4) (b5 := b5) (b6 := b6) (b7 := b7) (b8 := b8) (b9 := b9) (b10 := b10) (c1 := c1) (f := f) (σ := σ) (e1 := e1) (e2 := e2) (e3 := e3) (par := par) (fre := fre) (pri := pri) (sls := sls) (drk := drk) (pla := pla) (tks := tks) (t1 := t1) (t2 := t2) (t3 := t3) (bl := bl) (hR := hR) (hW := hW)) lk_X5_unlikeBills w_3_141 [0, 1, 2, 3, 4, 5, 6, 7] rfl dX5_about_107 rfl rfl rfl rfl ⟨by decide, by decide⟩ (Nat.le_of_ble_eq_true rfl) ?_
  rintro _ _ ⟨par_1, fre_2, pri_3, sls_4, drk_5, pla_6, tks_7, ta_8, tb_9, tc_10, bl_11, rfl, rfl⟩
  show ω [(hB, .inr (5, [.ref b1, .ref b2, .ref b3, .ref b4, .ref b5, .ref b6, .ref b7, .ref b8, .ref b9, .ref b10])), (b1, .inr (4, [.ref c1])), (c1, .inl (eI E, 265, .inl f)), (b7, .inr (0, [.ref e1, .ref e2, .ref e3, .int (nI par_1), .int (nI fre_2), .int (nI pri_3), .int (nI sls_4), .int (nI drk_5), .int (nI pla_6), .int (nI tks_7)])), (e1, .inl (eI E, 6, .inl ta_8)), (e2, .inl (eI E, 6, .inl tb_9)), (e3, .inl (eI E, 6, .inl tc_10)), (b10, .inl (eI E, 20, .inl bl_11))] [(0, .ref hB), (1, .int (nI 5))] [.int (nI (unlN σ 20))] 110
  exact RT.1 _ _ _ _ _ dX5_about_110 rfl rfl (⟨_, _, _, _, _, _, _, _, _, _, _, rfl, rfl⟩) rfl
