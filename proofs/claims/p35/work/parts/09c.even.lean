theorem fit_le {d : Nat} (h : d ≤ 1) : fits .boolean (.int (nI d)) = true := by
  rcases (by omega : d = 0 ∨ d = 1) with e | e <;> subst e
  · rfl
  · rfl
set_option maxRecDepth 100000 in
set_option maxHeartbeats 1000000 in
theorem c_X0_workOut {l : Launch} {E : Ev} {hE e1 e2 e3 par fre pri sls drk pla tks : Nat} {t1 t2 t3 : Nat → Int32} {h0 q1 : Nat} {f : Nat → Int32} {σ : Sg} (hR : RepC σ f) (hW : Wf σ) {n : Nat} (hn : n < 20) : Ct l E yX0_workOut cX0_workOut 5 none 3 71 [.ref hE, .ref h0, .int (nI n)] [(hE, .inr (0, [.ref e1, .ref e2, .ref e3, .int (nI par), .int (nI fre), .int (nI pri), .int (nI sls), .int (nI drk), .int (nI pla), .int (nI tks)])), (e1, .inl (eI E, 6, .inl t1)), (e2, .inl (eI E, 6, .inl t2)), (e3, .inl (eI E, 6, .inl t3)), (h0, .inr (4, [.ref q1])), (q1, .inl (eI E, 265, .inl f))] (fun v9 w9 => ∃ (par fre pri sls drk pla tks : Nat) (ta tb tc : Nat → Int32), v9 = none ∧ w9 = [(hE, .inr (0, [.ref e1, .ref e2, .ref e3, .int (nI par), .int (nI fre), .int (nI pri), .int (nI sls), .int (nI drk), .int (nI pla), .int (nI tks)])), (e1, .inl (eI E, 6, .inl ta)), (e2, .inl (eI E, 6, .inl tb)), (e3, .inl (eI E, 6, .inl tc)), (h0, .inr (4, [.ref q1])), (q1, .inl (eI E, 265, .inl f))] ∧ EvI σ n par drk pla tks ta tb tc) := by
  have hwP := hW.P
  have hwA := hW.A
  have hwS := hW.S
  have hIl : bm (fun a => sI σ a n) 10 < 1024 := bmC_lt hW n
  have hfr0 := Fre_0 (n := n) hW
  have hfl0 := Fre_lt hW hfr0
  have hO0 := hW.O0
  have hO1 := hW.O1
  refine ct_of (by decide +kernel) (Nat.le_of_ble_eq_true rfl) (fun ω C RT => ?_)
  show ω [(hE, .inr (0, [.ref e1, .ref e2, .ref e3, .int (nI par), .int (nI fre), .int (nI pri), .int (nI sls), .int (nI drk), .int (nI pla), .int (nI tks)])), (e1, .inl (eI E, 6, .inl t1)), (e2, .inl (eI E, 6, .inl t2)), (e3, .inl (eI E, 6, .inl t3)), (h0, .inr (4, [.ref q1])), (q1, .inl (eI E, 265, .inl f))] [(0, .ref hE), (1, .ref h0), (2, .int (nI n))] [] 0
  refine r_aload_n C (i := 1) 1 dX0_workOut_0 rfl rfl ?_
  refine r_ifnonnull C 5 dX0_workOut_1 (by decide) ?_
  refine r_aload_n C (i := 0) 0 dX0_workOut_5 rfl rfl ?_
  refine r_aload_n C (i := 1) 1 dX0_workOut_6 rfl rfl ?_
  refine r_readV (rest := [.ref hE]) C (c_X4_parts (h0 := h0) (q1 := q1) (f := f) (σ := σ) (hR := hR) (hW := hW)) lk_X4_parts w_3_56 [4, 5] rfl dX0_workOut_7 rfl rfl rfl rfl ⟨by decide, by decide⟩ (Nat.le_of_ble_eq_true rfl) (st' := [.int (nI (sP σ)), .ref hE]) rfl ?_
  refine r_bipush C dX0_workOut_10 kb_6 ?_
  refine r_mmin (v := nI (sP σ)) C w_3_57 dX0_workOut_12 (by decide) (by decide) (by rw [v_min (by omega) (by omega), if_neg (by omega)]) (Nat.le_of_ble_eq_true rfl) ?_
  refine r_put (ws' := [(hE, .inr (0, [.ref e1, .ref e2, .ref e3, .int (nI (sP σ)), .int (nI fre), .int (nI pri), .int (nI sls), .int (nI drk), .int (nI pla), .int (nI tks)])), (e1, .inl (eI E, 6, .inl t1)), (e2, .inl (eI E, 6, .inl t2)), (e3, .inl (eI E, 6, .inl t3)), (h0, .inr (4, [.ref q1])), (q1, .inl (eI E, 265, .inl f))]) C 0 3 uX0 rfl tyX0_ok nmX0 rfl (by decide) w_1_82 rfl (tyX0_ok 3 (by decide)) rfl rfl (Nat.le_of_ble_eq_true rfl) rfl dX0_workOut_15 ?_
  refine r_aload_n C (i := 0) 0 dX0_workOut_18 rfl rfl ?_
  refine r_iconst C dX0_workOut_19 ki_1 ?_
  refine r_aload_n C (i := 1) 1 dX0_workOut_20 rfl rfl ?_
  refine r_readV (rest := [.int (nI 1), .ref hE]) C (c_X4_actors (h0 := h0) (q1 := q1) (f := f) (σ := σ) (hR := hR) (hW := hW)) lk_X4_actors w_3_60 [4, 5] rfl dX0_workOut_21 rfl rfl rfl rfl ⟨by decide, by decide⟩ (Nat.le_of_ble_eq_true rfl) (st' := [.int (nI (sA σ)), .int (nI 1), .ref hE]) rfl ?_
  refine r_ishl (v := nI (2 ^ (sA σ))) C dX0_workOut_24 (v_shl (by omega)) ?_
  refine r_iconst C dX0_workOut_25 ki_1 ?_
  refine r_isub (v := nI (2 ^ sA σ - 1)) C dX0_workOut_26 (v_sub (Nat.two_pow_pos _)) ?_
  refine r_aload_n C (i := 1) 1 dX0_workOut_27 rfl rfl ?_
  refine r_iload_n C (i := 2) 2 dX0_workOut_28 rfl rfl ?_
  refine r_readV (rest := [.int (nI (2 ^ sA σ - 1)), .ref hE]) C (c_X4_illOn (h0 := h0) (q1 := q1) (f := f) (σ := σ) (n := n) (hR := hR) (hW := hW) (hn := (by omega))) lk_X4_illOn w_3_61 [4, 5] rfl dX0_workOut_29 rfl rfl rfl rfl ⟨by decide, by decide⟩ (Nat.le_of_ble_eq_true rfl) (st' := [.int (nI (bm (fun a => sI σ a n) 10)), .int (nI (2 ^ sA σ - 1)), .ref hE]) rfl ?_
  refine r_iconst C dX0_workOut_32 ki_m1 ?_
  refine r_ixor (v := (nI (bm (fun a => sI σ a n) 10) ^^^ mI 0)) C dX0_workOut_33 rfl ?_
  refine r_iand (v := nI ((2 ^ sA σ - 1) ^^^ ((2 ^ sA σ - 1) &&& (bm (fun a => sI σ a n) 10)))) C dX0_workOut_34 (v_andnot _ _) ?_
  refine r_put (ws' := [(hE, .inr (0, [.ref e1, .ref e2, .ref e3, .int (nI (sP σ)), .int (nI ((2 ^ sA σ - 1) ^^^ ((2 ^ sA σ - 1) &&& (bm (fun a => sI σ a n) 10)))), .int (nI pri), .int (nI sls), .int (nI drk), .int (nI pla), .int (nI tks)])), (e1, .inl (eI E, 6, .inl t1)), (e2, .inl (eI E, 6, .inl t2)), (e3, .inl (eI E, 6, .inl t3)), (h0, .inr (4, [.ref q1])), (q1, .inl (eI E, 265, .inl f))]) C 0 4 uX0 rfl tyX0_ok nmX0 rfl (by decide) w_1_83 rfl (tyX0_ok 4 (by decide)) rfl rfl (Nat.le_of_ble_eq_true rfl) rfl dX0_workOut_35 ?_
  refine r_aload_n C (i := 0) 0 dX0_workOut_38 rfl rfl ?_
  refine r_aload_n C (i := 1) 1 dX0_workOut_39 rfl rfl ?_
  refine r_iload_n C (i := 2) 2 dX0_workOut_40 rfl rfl ?_
  refine r_readV (rest := [.ref hE]) C (c_X4_principalsOn (h0 := h0) (q1 := q1) (f := f) (σ := σ) (n := n) (hR := hR) (hW := hW) (hn := (by omega))) lk_X4_principalsOn w_3_65 [4, 5] rfl dX0_workOut_41 rfl rfl rfl rfl ⟨by decide, by decide⟩ (Nat.le_of_ble_eq_true rfl) (st' := [.int (nI (prM σ n (sP σ))), .ref hE]) rfl ?_
  refine r_put (ws' := [(hE, .inr (0, [.ref e1, .ref e2, .ref e3, .int (nI (sP σ)), .int (nI ((2 ^ sA σ - 1) ^^^ ((2 ^ sA σ - 1) &&& (bm (fun a => sI σ a n) 10)))), .int (nI (prM σ n (sP σ))), .int (nI sls), .int (nI drk), .int (nI pla), .int (nI tks)])), (e1, .inl (eI E, 6, .inl t1)), (e2, .inl (eI E, 6, .inl t2)), (e3, .inl (eI E, 6, .inl t3)), (h0, .inr (4, [.ref q1])), (q1, .inl (eI E, 265, .inl f))]) C 0 5 uX0 rfl tyX0_ok nmX0 rfl (by decide) w_1_84 rfl (tyX0_ok 5 (by decide)) rfl rfl (Nat.le_of_ble_eq_true rfl) rfl dX0_workOut_44 ?_
  refine r_aload_n C (i := 0) 0 dX0_workOut_47 rfl rfl ?_
  refine r_aload_n C (i := 1) 1 dX0_workOut_48 rfl rfl ?_
  refine r_iload_n C (i := 2) 2 dX0_workOut_49 rfl rfl ?_
  refine r_readV (rest := [.ref hE]) C (c_X4_slipsOn (h0 := h0) (q1 := q1) (f := f) (σ := σ) (n := n) (hR := hR) (hW := hW) (hn := (by omega))) lk_X4_slipsOn w_3_73 [4, 5] rfl dX0_workOut_50 rfl rfl rfl rfl ⟨by decide, by decide⟩ (Nat.le_of_ble_eq_true rfl) (st' := [.int (nI (slM σ n (sS σ))), .ref hE]) rfl ?_
  refine r_put (ws' := [(hE, .inr (0, [.ref e1, .ref e2, .ref e3, .int (nI (sP σ)), .int (nI ((2 ^ sA σ - 1) ^^^ ((2 ^ sA σ - 1) &&& (bm (fun a => sI σ a n) 10)))), .int (nI (prM σ n (sP σ))), .int (nI (slM σ n (sS σ))), .int (nI drk), .int (nI pla), .int (nI tks)])), (e1, .inl (eI E, 6, .inl t1)), (e2, .inl (eI E, 6, .inl t2)), (e3, .inl (eI E, 6, .inl t3)), (h0, .inr (4, [.ref q1])), (q1, .inl (eI E, 265, .inl f))]) C 0 6 uX0 rfl tyX0_ok nmX0 rfl (by decide) w_1_85 rfl (tyX0_ok 6 (by decide)) rfl rfl (Nat.le_of_ble_eq_true rfl) rfl dX0_workOut_53 ?_
  have join69_1 : ∀ (d0 : Nat), (d0 = dkN σ n 0) → ω [(hE, .inr (0, [.ref e1, .ref e2, .ref e3, .int (nI (sP σ)), .int (nI ((2 ^ sA σ - 1) ^^^ ((2 ^ sA σ - 1) &&& (bm (fun a => sI σ a n) 10)))), .int (nI (prM σ n (sP σ))), .int (nI (slM σ n (sS σ))), .int (nI drk), .int (nI pla), .int (nI tks)])), (e1, .inl (eI E, 6, .inl t1)), (e2, .inl (eI E, 6, .inl t2)), (e3, .inl (eI E, 6, .inl t3)), (h0, .inr (4, [.ref q1])), (q1, .inl (eI E, 265, .inl f))] [(0, .ref hE), (1, .ref h0), (2, .int (nI n))] [.int (nI d0), .ref hE] 69 := by
    intro d0 hd0
    refine r_put (ws' := [(hE, .inr (0, [.ref e1, .ref e2, .ref e3, .int (nI (sP σ)), .int (nI ((2 ^ sA σ - 1) ^^^ ((2 ^ sA σ - 1) &&& (bm (fun a => sI σ a n) 10)))), .int (nI (prM σ n (sP σ))), .int (nI (slM σ n (sS σ))), .int (nI d0), .int (nI pla), .int (nI tks)])), (e1, .inl (eI E, 6, .inl t1)), (e2, .inl (eI E, 6, .inl t2)), (e3, .inl (eI E, 6, .inl t3)), (h0, .inr (4, [.ref q1])), (q1, .inl (eI E, 265, .inl f))]) C 0 7 uX0 rfl tyX0_ok nmX0 rfl (by decide) w_1_86 rfl (tyX0_ok 7 (by decide)) (nar_le (by rw [hd0]; exact dkN_le σ n 0)) (fit_le (by rw [hd0]; exact dkN_le σ n 0)) (Nat.le_of_ble_eq_true rfl) rfl dX0_workOut_69 ?_
    refine r_aload_n C (i := 0) 0 dX0_workOut_72 rfl rfl ?_
    refine r_iconst C dX0_workOut_73 ki_0 ?_
    refine r_put (ws' := [(hE, .inr (0, [.ref e1, .ref e2, .ref e3, .int (nI (sP σ)), .int (nI ((2 ^ sA σ - 1) ^^^ ((2 ^ sA σ - 1) &&& (bm (fun a => sI σ a n) 10)))), .int (nI (prM σ n (sP σ))), .int (nI (slM σ n (sS σ))), .int (nI d0), .int (nI 0), .int (nI tks)])), (e1, .inl (eI E, 6, .inl t1)), (e2, .inl (eI E, 6, .inl t2)), (e3, .inl (eI E, 6, .inl t3)), (h0, .inr (4, [.ref q1])), (q1, .inl (eI E, 265, .inl f))]) C 0 8 uX0 rfl tyX0_ok nmX0 rfl (by decide) w_1_87 rfl (tyX0_ok 8 (by decide)) rfl rfl (Nat.le_of_ble_eq_true rfl) rfl dX0_workOut_74 ?_
    refine r_iconst C dX0_workOut_77 ki_0 ?_
    refine r_istore_n C (lv' := [(3, .int (nI 0)), (0, .ref hE), (1, .ref h0), (2, .int (nI n))]) dX0_workOut_78 rfl (by decide) rfl ?_
    refine r_iconst C dX0_workOut_79 ki_0 ?_
    refine r_istore C (lv' := [(4, .int (nI 0)), (3, .int (nI 0)), (0, .ref hE), (1, .ref h0), (2, .int (nI n))]) dX0_workOut_80 (by decide) rfl ?_
    have loop82_2 : ∀ (dd9 : Nat) (p : Nat) (fm : Nat) (fr : Nat) (d : Nat) (pl : Nat) (u1 : Nat → Int32) (u2 : Nat → Int32) (u3 : Nat → Int32), sP σ - p < dd9 → (p ≤ sP σ) → (fm = fam σ n p) → (Fre σ n (us σ n p) fr) → (d = dkN σ n p) → (pl = us σ n p) → (EvR σ n p u1 u2 u3) → ω [(hE, .inr (0, [.ref e1, .ref e2, .ref e3, .int (nI (sP σ)), .int (nI fr), .int (nI (prM σ n (sP σ))), .int (nI (slM σ n (sS σ))), .int (nI d), .int (nI pl), .int (nI tks)])), (e1, .inl (eI E, 6, .inl u1)), (e2, .inl (eI E, 6, .inl u2)), (e3, .inl (eI E, 6, .inl u3)), (h0, .inr (4, [.ref q1])), (q1, .inl (eI E, 265, .inl f))] [(4, .int (nI p)), (3, .int (nI fm)), (0, .ref hE), (1, .ref h0), (2, .int (nI n))] [] 82 := by
      intro dd9
      induction dd9 with
      | zero => intro p fm fr d pl u1 u2 u3 hd; exact absurd hd (Nat.not_lt_zero _)
      | succ dd9 ih3 =>
        intro p fm fr d pl u1 u2 u3 hd hp hfm hF hd hpl hEv
        have hfml := fam_le hW hn hp
        have hdl := dkN_le σ n p
        refine r_iload C (i := 4) 0 dX0_workOut_82 rfl ?_
        refine r_aload_n C (i := 0) 2 dX0_workOut_84 rfl rfl ?_
        refine r_get C 0 3 uX0 rfl rfl (by decide) w_1_82 rfl dX0_workOut_85 ?_
        refine r_icmp_ge C (c9 := sP σ ≤ p) 145 dX0_workOut_88 (by decide) (c_leNN (by omega) (by omega)) (fun h88_4 => ?_) (fun h88_4 => ?_)
        · refine r_aload_n C (i := 0) 2 dX0_workOut_145 rfl rfl ?_
          refine r_get C 0 7 uX0 rfl rfl (by decide) w_1_86 rfl dX0_workOut_146 ?_
          refine r_if_eq C (y := 0) (c9 := d = 0) 157 dX0_workOut_149 (by decide) (z_eqN (by omega)) (fun h149_5 => ?_) (fun h149_5 => ?_)
          · refine r_aload_n C (i := 0) 2 dX0_workOut_157 rfl rfl ?_
            refine r_aload_n C (i := 0) 2 dX0_workOut_158 rfl rfl ?_
            refine r_get C 0 7 uX0 rfl rfl (by decide) w_1_86 rfl dX0_workOut_159 ?_
            refine r_if_eqT C (y := 0) 169 dX0_workOut_162 (by decide) ((z_eqN (by omega)).mpr h149_5) ?_
            refine r_aload_n C (i := 1) 3 dX0_workOut_169 rfl rfl ?_
            refine r_iconst C dX0_workOut_170 ki_0 ?_
            refine r_readV (rest := [.ref hE]) C (c_X4_option (h0 := h0) (q1 := q1) (f := f) (σ := σ) (i := 0) (hR := hR) (hW := hW) (hi := (by omega))) lk_X4_option w_3_121 [4, 5] rfl dX0_workOut_171 rfl rfl rfl rfl ⟨by decide, by decide⟩ (Nat.le_of_ble_eq_true rfl) (st' := [.int (nI (sO σ 0)), .ref hE]) rfl ?_
            refine r_aload_n C (i := 1) 3 dX0_workOut_174 rfl rfl ?_
            refine r_iconst C dX0_workOut_175 ki_1 ?_
            refine r_readV (rest := [.int (nI (sO σ 0)), .ref hE]) C (c_X4_option (h0 := h0) (q1 := q1) (f := f) (σ := σ) (i := 1) (hR := hR) (hW := hW) (hi := (by omega))) lk_X4_option w_3_121 [4, 5] rfl dX0_workOut_176 rfl rfl rfl rfl ⟨by decide, by decide⟩ (Nat.le_of_ble_eq_true rfl) (st' := [.int (nI (sO σ 1)), .int (nI (sO σ 0)), .ref hE]) rfl ?_
            refine r_iload_n C (i := 3) 1 dX0_workOut_179 rfl rfl ?_
            refine r_imul (v := nI (sO σ 1 * fm)) C dX0_workOut_180 (pk_mul _ _) ?_
            refine r_iadd (v := nI ((sO σ 0) + (sO σ 1 * fm))) C dX0_workOut_181 (nI_add _ _) ?_
            refine r_put (ws' := [(hE, .inr (0, [.ref e1, .ref e2, .ref e3, .int (nI (sP σ)), .int (nI fr), .int (nI (prM σ n (sP σ))), .int (nI (slM σ n (sS σ))), .int (nI d), .int (nI pl), .int (nI ((sO σ 0) + (sO σ 1 * fm)))])), (e1, .inl (eI E, 6, .inl u1)), (e2, .inl (eI E, 6, .inl u2)), (e3, .inl (eI E, 6, .inl u3)), (h0, .inr (4, [.ref q1])), (q1, .inl (eI E, 265, .inl f))]) C 0 9 uX0 rfl tyX0_ok nmX0 rfl (by decide) w_1_88 rfl (tyX0_ok 9 (by decide)) rfl rfl (Nat.le_of_ble_eq_true rfl) rfl dX0_workOut_182 ?_
            exact RT.2.2.1 _ _ _ dX0_workOut_185 rfl (⟨_, _, _, _, _, _, _, _, _, _, rfl, rfl, rfl, (show d = dk σ n by rw [hd, (show p = sP σ by omega)]; rfl), (by rw [plr, ← (show d = dk σ n by rw [hd, (show p = sP σ by omega)]; rfl), if_neg (by omega), hpl, (show p = sP σ by omega)]), (by rw [tak, ← (show d = dk σ n by rw [hd, (show p = sP σ by omega)]; rfl), if_neg (by omega), hfm, (show p = sP σ by omega)]), (show EvR σ n (sP σ) _ _ _ by rw [← (show p = sP σ by omega)]; exact hEv)⟩) rfl
          · refine r_aload_n C (i := 0) 2 dX0_workOut_152 rfl rfl ?_
            refine r_iconst C dX0_workOut_153 ki_0 ?_
            refine r_put (ws' := [(hE, .inr (0, [.ref e1, .ref e2, .ref e3, .int (nI (sP σ)), .int (nI fr), .int (nI (prM σ n (sP σ))), .int (nI (slM σ n (sS σ))), .int (nI d), .int (nI 0), .int (nI tks)])), (e1, .inl (eI E, 6, .inl u1)), (e2, .inl (eI E, 6, .inl u2)), (e3, .inl (eI E, 6, .inl u3)), (h0, .inr (4, [.ref q1])), (q1, .inl (eI E, 265, .inl f))]) C 0 8 uX0 rfl tyX0_ok nmX0 rfl (by decide) w_1_87 rfl (tyX0_ok 8 (by decide)) rfl rfl (Nat.le_of_ble_eq_true rfl) rfl dX0_workOut_154 ?_
            refine r_aload_n C (i := 0) 2 dX0_workOut_157 rfl rfl ?_
            refine r_aload_n C (i := 0) 2 dX0_workOut_158 rfl rfl ?_
            refine r_get C 0 7 uX0 rfl rfl (by decide) w_1_86 rfl dX0_workOut_159 ?_
            refine r_if_eqF C (y := 0) (tgt := 169) dX0_workOut_162 (by decide) (fun z => (h149_5 : ¬ (d = 0)) ((z_eqN (by omega)).mp z)) ?_
            refine r_iconst C dX0_workOut_165 ki_0 ?_
            refine r_goto C 182 dX0_workOut_166 (by decide) ?_
            refine r_put (ws' := [(hE, .inr (0, [.ref e1, .ref e2, .ref e3, .int (nI (sP σ)), .int (nI fr), .int (nI (prM σ n (sP σ))), .int (nI (slM σ n (sS σ))), .int (nI d), .int (nI 0), .int (nI 0)])), (e1, .inl (eI E, 6, .inl u1)), (e2, .inl (eI E, 6, .inl u2)), (e3, .inl (eI E, 6, .inl u3)), (h0, .inr (4, [.ref q1])), (q1, .inl (eI E, 265, .inl f))]) C 0 9 uX0 rfl tyX0_ok nmX0 rfl (by decide) w_1_88 rfl (tyX0_ok 9 (by decide)) rfl rfl (Nat.le_of_ble_eq_true rfl) rfl dX0_workOut_182 ?_
            exact RT.2.2.1 _ _ _ dX0_workOut_185 rfl (⟨_, _, _, _, _, _, _, _, _, _, rfl, rfl, rfl, (show d = dk σ n by rw [hd, (show p = sP σ by omega)]; rfl), (by rw [plr, ← (show d = dk σ n by rw [hd, (show p = sP σ by omega)]; rfl), if_pos (by omega)]), (by rw [tak, ← (show d = dk σ n by rw [hd, (show p = sP σ by omega)]; rfl), if_pos (by omega)]), (show EvR σ n (sP σ) _ _ _ by rw [← (show p = sP σ by omega)]; exact hEv)⟩) rfl
        · refine r_aload_n C (i := 0) 2 dX0_workOut_91 rfl rfl ?_
          refine r_aload_n C (i := 1) 3 dX0_workOut_92 rfl rfl ?_
          refine r_iload_n C (i := 2) 4 dX0_workOut_93 rfl rfl ?_
          refine r_iload C (i := 4) 0 dX0_workOut_94 rfl ?_
          refine r_callV (rest := []) C (c_X0_choose (hE := hE) (e1 := e1) (e2 := e2) (e3 := e3) (par := sP σ) (fre := fr) (pri := prM σ n (sP σ)) (sls := slM σ n (sS σ)) (drk := d) (pla := pl) (tks := tks) (t1 := u1) (t2 := u2) (t3 := u3) (h0 := h0) (q1 := q1) (f := f) (σ := σ) (n := n) (u := (us σ n p)) (p := p) (hR := hR) (hW := hW) (hn := (by omega)) (hp := (by omega)) (hF := hF) (hpr := rfl) (hs := rfl)) lk_X0_choose w_3_81 [0, 1, 2, 3, 4, 5] rfl dX0_workOut_96 rfl rfl rfl rfl ⟨by decide, by decide⟩ (Nat.le_of_ble_eq_true rfl) ?_
          rintro _ _ ⟨fr_6, rfl, rfl, hF_7⟩
          show ω [(hE, .inr (0, [.ref e1, .ref e2, .ref e3, .int (nI (sP σ)), .int (nI fr_6), .int (nI (prM σ n (sP σ))), .int (nI (slM σ n (sS σ))), .int (nI d), .int (nI (if tk σ n p (us σ n p) = 0 then pl else pl ||| 2 ^ (tk σ n p (us σ n p) - 1))), .int (nI tks)])), (e1, .inl (eI E, 6, .inl (upd u1 p (mI (tk σ n p (us σ n p)))))), (e2, .inl (eI E, 6, .inl (upd u2 p (nI (why σ n p (us σ n p)))))), (e3, .inl (eI E, 6, .inl (upd u3 p (mI (sl σ n p (us σ n p)))))), (h0, .inr (4, [.ref q1])), (q1, .inl (eI E, 265, .inl f))] [(4, .int (nI p)), (3, .int (nI fm)), (0, .ref hE), (1, .ref h0), (2, .int (nI n))] [] 99
          refine r_iload_n C (i := 3) 1 dX0_workOut_99 rfl rfl ?_
          refine r_aload_n C (i := 1) 3 dX0_workOut_100 rfl rfl ?_
          refine r_aload_n C (i := 0) 2 dX0_workOut_101 rfl rfl ?_
          refine r_get C 0 0 uX0 rfl rfl (by decide) w_1_79 rfl dX0_workOut_102 ?_
          have hT := T_le hW (show p < sP σ by omega) hn
          have hTf : sFm σ (T σ n p) ≤ 9 := by unfold sFm; split; omega; exact hW.F (by omega)
          have hWy : Wy σ n p ≤ 3 := why_le σ n p _
          have hW0 : Wy σ n p = 0 ↔ T σ n p = 0 := why_0
          refine r_iload C (i := 4) 0 dX0_workOut_105 rfl ?_
          refine r_iald (j := p) (v := mI (T σ n p)) C 1 rfl (by omega) (by decide) pk_us dX0_workOut_107 ?_
          refine r_readV (rest := [.int (nI fm)]) C (c_X4_fame__m (h0 := h0) (q1 := q1) (f := f) (σ := σ) (x := T σ n p) (hR := hR) (hW := hW) (hx := (by omega))) lk_X4_fame w_3_117 [4, 5] rfl dX0_workOut_108 rfl rfl rfl rfl ⟨by decide, by decide⟩ (Nat.le_of_ble_eq_true rfl) (st' := [.int (nI (sFm σ (T σ n p))), .int (nI fm)]) rfl ?_
          refine r_iadd (v := nI (fm + (sFm σ (T σ n p)))) C dX0_workOut_111 (nI_add _ _) ?_
          refine r_istore_n C (lv' := [(3, .int (nI (fm + (sFm σ (T σ n p))))), (4, .int (nI p)), (0, .ref hE), (1, .ref h0), (2, .int (nI n))]) dX0_workOut_112 rfl (by decide) rfl ?_
          refine r_aload_n C (i := 0) 2 dX0_workOut_113 rfl rfl ?_
          refine r_aload_n C (i := 0) 2 dX0_workOut_114 rfl rfl ?_
          refine r_get C 0 7 uX0 rfl rfl (by decide) w_1_86 rfl dX0_workOut_115 ?_
          refine r_if_ne C (y := 0) (c9 := d ≠ 0) 131 dX0_workOut_118 (by decide) (z_neN (by omega)) (fun h118_8 => ?_) (fun h118_8 => ?_)
          · refine r_iconst C dX0_workOut_131 ki_1 ?_
            refine r_goto C 136 dX0_workOut_132 (by decide) ?_
            refine r_put (ws' := [(hE, .inr (0, [.ref e1, .ref e2, .ref e3, .int (nI (sP σ)), .int (nI fr_6), .int (nI (prM σ n (sP σ))), .int (nI (slM σ n (sS σ))), .int (nI 1), .int (nI (if tk σ n p (us σ n p) = 0 then pl else pl ||| 2 ^ (tk σ n p (us σ n p) - 1))), .int (nI tks)])), (e1, .inl (eI E, 6, .inl (upd u1 p (mI (tk σ n p (us σ n p)))))), (e2, .inl (eI E, 6, .inl (upd u2 p (nI (why σ n p (us σ n p)))))), (e3, .inl (eI E, 6, .inl (upd u3 p (mI (sl σ n p (us σ n p)))))), (h0, .inr (4, [.ref q1])), (q1, .inl (eI E, 265, .inl f))]) C 0 7 uX0 rfl tyX0_ok nmX0 rfl (by decide) w_1_86 rfl (tyX0_ok 7 (by decide)) nar_1 rfl (Nat.le_of_ble_eq_true rfl) rfl dX0_workOut_136 ?_
            refine r_iinc C (lv' := [(4, .int (nI (p + 1))), (3, .int (nI (fm + (sFm σ (T σ n p))))), (0, .ref hE), (1, .ref h0), (2, .int (nI n))]) (v := nI (p + 1)) 1 dX0_workOut_139 rfl (v_inc _) (by decide) rfl ?_
            refine r_goto C 82 dX0_workOut_142 (by decide) ?_
            exact ih3 (p + 1) (fm + (sFm σ (T σ n p))) fr_6 1 (if tk σ n p (us σ n p) = 0 then pl else pl ||| 2 ^ (tk σ n p (us σ n p) - 1)) (upd u1 p (mI (tk σ n p (us σ n p)))) (upd u2 p (nI (why σ n p (us σ n p)))) (upd u3 p (mI (sl σ n p (us σ n p)))) (by omega) (by omega) (by rw [hfm]; rfl) hF_7 (by rw [dkN, if_pos (Or.inl (by omega))]) (by rw [hpl]; rfl) (EvR_s hEv)
          · refine r_aload_n C (i := 0) 2 dX0_workOut_121 rfl rfl ?_
            refine r_get C 0 1 uX0 rfl rfl (by decide) w_1_80 rfl dX0_workOut_122 ?_
            refine r_iload C (i := 4) 1 dX0_workOut_125 rfl ?_
            refine r_iald (j := p) (v := nI (Wy σ n p)) C 2 rfl (by omega) (by decide) pk_us dX0_workOut_127 ?_
            refine r_if_ne C (y := 0) (c9 := Wy σ n p ≠ 0) 135 dX0_workOut_128 (by decide) (z_neN (by omega)) (fun h128_9 => ?_) (fun h128_9 => ?_)
            · refine r_iconst C dX0_workOut_135 ki_0 ?_
              refine r_put (ws' := [(hE, .inr (0, [.ref e1, .ref e2, .ref e3, .int (nI (sP σ)), .int (nI fr_6), .int (nI (prM σ n (sP σ))), .int (nI (slM σ n (sS σ))), .int (nI 0), .int (nI (if tk σ n p (us σ n p) = 0 then pl else pl ||| 2 ^ (tk σ n p (us σ n p) - 1))), .int (nI tks)])), (e1, .inl (eI E, 6, .inl (upd u1 p (mI (tk σ n p (us σ n p)))))), (e2, .inl (eI E, 6, .inl (upd u2 p (nI (why σ n p (us σ n p)))))), (e3, .inl (eI E, 6, .inl (upd u3 p (mI (sl σ n p (us σ n p)))))), (h0, .inr (4, [.ref q1])), (q1, .inl (eI E, 265, .inl f))]) C 0 7 uX0 rfl tyX0_ok nmX0 rfl (by decide) w_1_86 rfl (tyX0_ok 7 (by decide)) nar_0 rfl (Nat.le_of_ble_eq_true rfl) rfl dX0_workOut_136 ?_
              refine r_iinc C (lv' := [(4, .int (nI (p + 1))), (3, .int (nI (fm + (sFm σ (T σ n p))))), (0, .ref hE), (1, .ref h0), (2, .int (nI n))]) (v := nI (p + 1)) 1 dX0_workOut_139 rfl (v_inc _) (by decide) rfl ?_
              refine r_goto C 82 dX0_workOut_142 (by decide) ?_
              exact ih3 (p + 1) (fm + (sFm σ (T σ n p))) fr_6 0 (if tk σ n p (us σ n p) = 0 then pl else pl ||| 2 ^ (tk σ n p (us σ n p) - 1)) (upd u1 p (mI (tk σ n p (us σ n p)))) (upd u2 p (nI (why σ n p (us σ n p)))) (upd u3 p (mI (sl σ n p (us σ n p)))) (by omega) (by omega) (by rw [hfm]; rfl) hF_7 (by rw [dkN, if_neg (by omega)]) (by rw [hpl]; rfl) (EvR_s hEv)
            · refine r_iconst C dX0_workOut_131 ki_1 ?_
              refine r_goto C 136 dX0_workOut_132 (by decide) ?_
              refine r_put (ws' := [(hE, .inr (0, [.ref e1, .ref e2, .ref e3, .int (nI (sP σ)), .int (nI fr_6), .int (nI (prM σ n (sP σ))), .int (nI (slM σ n (sS σ))), .int (nI 1), .int (nI (if tk σ n p (us σ n p) = 0 then pl else pl ||| 2 ^ (tk σ n p (us σ n p) - 1))), .int (nI tks)])), (e1, .inl (eI E, 6, .inl (upd u1 p (mI (tk σ n p (us σ n p)))))), (e2, .inl (eI E, 6, .inl (upd u2 p (nI (why σ n p (us σ n p)))))), (e3, .inl (eI E, 6, .inl (upd u3 p (mI (sl σ n p (us σ n p)))))), (h0, .inr (4, [.ref q1])), (q1, .inl (eI E, 265, .inl f))]) C 0 7 uX0 rfl tyX0_ok nmX0 rfl (by decide) w_1_86 rfl (tyX0_ok 7 (by decide)) nar_1 rfl (Nat.le_of_ble_eq_true rfl) rfl dX0_workOut_136 ?_
              refine r_iinc C (lv' := [(4, .int (nI (p + 1))), (3, .int (nI (fm + (sFm σ (T σ n p))))), (0, .ref hE), (1, .ref h0), (2, .int (nI n))]) (v := nI (p + 1)) 1 dX0_workOut_139 rfl (v_inc _) (by decide) rfl ?_
              refine r_goto C 82 dX0_workOut_142 (by decide) ?_
              exact ih3 (p + 1) (fm + (sFm σ (T σ n p))) fr_6 1 (if tk σ n p (us σ n p) = 0 then pl else pl ||| 2 ^ (tk σ n p (us σ n p) - 1)) (upd u1 p (mI (tk σ n p (us σ n p)))) (upd u2 p (nI (why σ n p (us σ n p)))) (upd u3 p (mI (sl σ n p (us σ n p)))) (by omega) (by omega) (by rw [hfm]; rfl) hF_7 (by rw [dkN, if_pos (Or.inr (by omega))]) (by rw [hpl]; rfl) (EvR_s hEv)
    exact loop82_2 _ 0 0 ((2 ^ sA σ - 1) ^^^ ((2 ^ sA σ - 1) &&& (bm (fun a => sI σ a n) 10))) d0 0 t1 t2 t3 (Nat.lt_succ_self _) (by omega) rfl hfr0 hd0 rfl (EvR_0 σ n _ _ _)
  refine r_aload_n C (i := 0) 0 dX0_workOut_56 rfl rfl ?_
  refine r_aload_n C (i := 0) 0 dX0_workOut_57 rfl rfl ?_
  refine r_get C 0 3 uX0 rfl rfl (by decide) w_1_82 rfl dX0_workOut_58 ?_
  refine r_if_ne C (y := 0) (c9 := sP σ ≠ 0) 68 dX0_workOut_61 (by decide) (z_neN (by omega)) (fun h61_10 => ?_) (fun h61_10 => ?_)
  · refine r_iconst C dX0_workOut_68 ki_0 ?_
    exact join69_1 0 ((if_neg h61_10).symm)
  · refine r_iconst C dX0_workOut_64 ki_1 ?_
    refine r_goto C 69 dX0_workOut_65 (by decide) ?_
    exact join69_1 1 ((if_pos (by omega)).symm)
set_option maxRecDepth 100000 in
set_option maxHeartbeats 1000000 in
theorem c_X0_isDark {l : Launch} {E : Ev} {hE e1 e2 e3 par fre pri sls drk pla tks : Nat} {t1 t2 t3 : Nat → Int32} {σ : Sg} {n : Nat} (hEv : EvI σ n par drk pla tks t1 t2 t3) (hW : Wf σ) : Cr l E yX0_isDark cX0_isDark 1 (some FieldType.boolean) 0 0 [.ref hE] [(hE, .inr (0, [.ref e1, .ref e2, .ref e3, .int (nI par), .int (nI fre), .int (nI pri), .int (nI sls), .int (nI drk), .int (nI pla), .int (nI tks)])), (e1, .inl (eI E, 6, .inl t1)), (e2, .inl (eI E, 6, .inl t2)), (e3, .inl (eI E, 6, .inl t3))] (some (.int (nI (dk σ n)))) := by
  have hEv0 := hEv
  obtain ⟨hpar, hdrk, hpla, htks, hE1⟩ := hEv
  have hwP := hW.P
  have hdl := dk_le σ n
  refine ct_of (by decide +kernel) (Nat.le_of_ble_eq_true rfl) (fun ω C RT => ?_)
  show ω [(hE, .inr (0, [.ref e1, .ref e2, .ref e3, .int (nI par), .int (nI fre), .int (nI pri), .int (nI sls), .int (nI drk), .int (nI pla), .int (nI tks)])), (e1, .inl (eI E, 6, .inl t1)), (e2, .inl (eI E, 6, .inl t2)), (e3, .inl (eI E, 6, .inl t3))] [(0, .ref hE)] [] 0
  refine r_aload_n C (i := 0) 0 dX0_isDark_0 rfl rfl ?_
  refine r_get C 0 7 uX0 rfl rfl (by decide) w_1_86 rfl dX0_isDark_1 ?_
  exact RT.1 _ _ _ _ _ dX0_isDark_4 rfl (nar_le (by omega)) (rd_i (congrArg nI hdrk)) rfl
set_option maxRecDepth 100000 in
set_option maxHeartbeats 1000000 in
theorem c_X0_takings {l : Launch} {E : Ev} {hE e1 e2 e3 par fre pri sls drk pla tks : Nat} {t1 t2 t3 : Nat → Int32} {σ : Sg} {n : Nat} (hEv : EvI σ n par drk pla tks t1 t2 t3) (hW : Wf σ) : Cr l E yX0_takings cX0_takings 1 (some FieldType.int) 0 0 [.ref hE] [(hE, .inr (0, [.ref e1, .ref e2, .ref e3, .int (nI par), .int (nI fre), .int (nI pri), .int (nI sls), .int (nI drk), .int (nI pla), .int (nI tks)])), (e1, .inl (eI E, 6, .inl t1)), (e2, .inl (eI E, 6, .inl t2)), (e3, .inl (eI E, 6, .inl t3))] (some (.int (nI (tak σ n)))) := by
  have hEv0 := hEv
  obtain ⟨hpar, hdrk, hpla, htks, hE1⟩ := hEv
  have hwP := hW.P
  have hdl := dk_le σ n
  refine ct_of (by decide +kernel) (Nat.le_of_ble_eq_true rfl) (fun ω C RT => ?_)
  show ω [(hE, .inr (0, [.ref e1, .ref e2, .ref e3, .int (nI par), .int (nI fre), .int (nI pri), .int (nI sls), .int (nI drk), .int (nI pla), .int (nI tks)])), (e1, .inl (eI E, 6, .inl t1)), (e2, .inl (eI E, 6, .inl t2)), (e3, .inl (eI E, 6, .inl t3))] [(0, .ref hE)] [] 0
  refine r_aload_n C (i := 0) 0 dX0_takings_0 rfl rfl ?_
  refine r_get C 0 9 uX0 rfl rfl (by decide) w_1_88 rfl dX0_takings_1 ?_
  exact RT.1 _ _ _ _ _ dX0_takings_4 rfl rfl (rd_i (congrArg nI htks)) rfl
set_option maxRecDepth 100000 in
set_option maxHeartbeats 1000000 in
theorem c_X0_players {l : Launch} {E : Ev} {hE e1 e2 e3 par fre pri sls drk pla tks : Nat} {t1 t2 t3 : Nat → Int32} {σ : Sg} {n : Nat} (hEv : EvI σ n par drk pla tks t1 t2 t3) (hW : Wf σ) : Cr l E yX0_players cX0_players 1 (some FieldType.int) 0 0 [.ref hE] [(hE, .inr (0, [.ref e1, .ref e2, .ref e3, .int (nI par), .int (nI fre), .int (nI pri), .int (nI sls), .int (nI drk), .int (nI pla), .int (nI tks)])), (e1, .inl (eI E, 6, .inl t1)), (e2, .inl (eI E, 6, .inl t2)), (e3, .inl (eI E, 6, .inl t3))] (some (.int (nI (plr σ n)))) := by
  have hEv0 := hEv
  obtain ⟨hpar, hdrk, hpla, htks, hE1⟩ := hEv
  have hwP := hW.P
  have hdl := dk_le σ n
  refine ct_of (by decide +kernel) (Nat.le_of_ble_eq_true rfl) (fun ω C RT => ?_)
  show ω [(hE, .inr (0, [.ref e1, .ref e2, .ref e3, .int (nI par), .int (nI fre), .int (nI pri), .int (nI sls), .int (nI drk), .int (nI pla), .int (nI tks)])), (e1, .inl (eI E, 6, .inl t1)), (e2, .inl (eI E, 6, .inl t2)), (e3, .inl (eI E, 6, .inl t3))] [(0, .ref hE)] [] 0
  refine r_aload_n C (i := 0) 0 dX0_players_0 rfl rfl ?_
  refine r_get C 0 8 uX0 rfl rfl (by decide) w_1_87 rfl dX0_players_1 ?_
  exact RT.1 _ _ _ _ _ dX0_players_4 rfl rfl (rd_i (congrArg nI hpla)) rfl
set_option maxRecDepth 100000 in
set_option maxHeartbeats 1000000 in
theorem c_X0_takenFor {l : Launch} {E : Ev} {hE e1 e2 e3 par fre pri sls drk pla tks : Nat} {t1 t2 t3 : Nat → Int32} {σ : Sg} {n : Nat} (hEv : EvI σ n par drk pla tks t1 t2 t3) (hW : Wf σ) {p : Nat} (hp : p < sP σ) : Cr l E yX0_takenFor cX0_takenFor 2 (some FieldType.int) 0 0 [.ref hE, .int (nI p)] [(hE, .inr (0, [.ref e1, .ref e2, .ref e3, .int (nI par), .int (nI fre), .int (nI pri), .int (nI sls), .int (nI drk), .int (nI pla), .int (nI tks)])), (e1, .inl (eI E, 6, .inl t1)), (e2, .inl (eI E, 6, .inl t2)), (e3, .inl (eI E, 6, .inl t3))] (some (.int (mI (T σ n p)))) := by
  have hEv0 := hEv
  obtain ⟨hpar, hdrk, hpla, htks, hE1⟩ := hEv
  have hwP := hW.P
  have hdl := dk_le σ n
  refine ct_of (by decide +kernel) (Nat.le_of_ble_eq_true rfl) (fun ω C RT => ?_)
  show ω [(hE, .inr (0, [.ref e1, .ref e2, .ref e3, .int (nI par), .int (nI fre), .int (nI pri), .int (nI sls), .int (nI drk), .int (nI pla), .int (nI tks)])), (e1, .inl (eI E, 6, .inl t1)), (e2, .inl (eI E, 6, .inl t2)), (e3, .inl (eI E, 6, .inl t3))] [(0, .ref hE), (1, .int (nI p))] [] 0
  refine r_iload_n C (i := 1) 1 dX0_takenFor_0 rfl rfl ?_
  refine r_if_ltF C (y := 0) (tgt := 27) dX0_takenFor_1 (by decide) (fun z => ((by omega) : ¬ (p < 0)) ((z_ltN (by omega)).mp z)) ?_
  refine r_iload_n C (i := 1) 1 dX0_takenFor_4 rfl rfl ?_
  refine r_aload_n C (i := 0) 0 dX0_takenFor_5 rfl rfl ?_
  refine r_get C 0 3 uX0 rfl rfl (by decide) w_1_82 rfl dX0_takenFor_6 ?_
  refine r_icmp_geF C (tgt := 27) dX0_takenFor_9 (by decide) (fun z => ((by omega) : ¬ (par ≤ p)) ((c_leNN (by omega) (by omega)).mp z)) ?_
  refine r_iload_n C (i := 1) 1 dX0_takenFor_12 rfl rfl ?_
  refine r_bipush C dX0_takenFor_13 kb_6 ?_
  refine r_icmp_geF C (tgt := 27) dX0_takenFor_15 (by decide) (fun z => ((by omega) : ¬ (6 ≤ p)) ((c_leNN (by omega) (by omega)).mp z)) ?_
  refine r_aload_n C (i := 0) 0 dX0_takenFor_18 rfl rfl ?_
  refine r_get C 0 0 uX0 rfl rfl (by decide) w_1_79 rfl dX0_takenFor_19 ?_
  refine r_iload_n C (i := 1) 1 dX0_takenFor_22 rfl rfl ?_
  refine r_iald (j := p) (v := mI (T σ n p)) C 1 rfl (by omega) (by decide) ((hE1 p hp).1) dX0_takenFor_23 ?_
  refine r_goto C 28 dX0_takenFor_24 (by decide) ?_
  exact RT.1 _ _ _ _ _ dX0_takenFor_28 rfl rfl (rd_i rfl) rfl
set_option maxRecDepth 100000 in
set_option maxHeartbeats 1000000 in
theorem c_X0_reason {l : Launch} {E : Ev} {hE e1 e2 e3 par fre pri sls drk pla tks : Nat} {t1 t2 t3 : Nat → Int32} {σ : Sg} {n : Nat} (hEv : EvI σ n par drk pla tks t1 t2 t3) (hW : Wf σ) {p : Nat} (hp : p < sP σ) : Cr l E yX0_reason cX0_reason 2 (some FieldType.int) 0 0 [.ref hE, .int (nI p)] [(hE, .inr (0, [.ref e1, .ref e2, .ref e3, .int (nI par), .int (nI fre), .int (nI pri), .int (nI sls), .int (nI drk), .int (nI pla), .int (nI tks)])), (e1, .inl (eI E, 6, .inl t1)), (e2, .inl (eI E, 6, .inl t2)), (e3, .inl (eI E, 6, .inl t3))] (some (.int (nI (Wy σ n p)))) := by
  have hEv0 := hEv
  obtain ⟨hpar, hdrk, hpla, htks, hE1⟩ := hEv
  have hwP := hW.P
  have hdl := dk_le σ n
  refine ct_of (by decide +kernel) (Nat.le_of_ble_eq_true rfl) (fun ω C RT => ?_)
  show ω [(hE, .inr (0, [.ref e1, .ref e2, .ref e3, .int (nI par), .int (nI fre), .int (nI pri), .int (nI sls), .int (nI drk), .int (nI pla), .int (nI tks)])), (e1, .inl (eI E, 6, .inl t1)), (e2, .inl (eI E, 6, .inl t2)), (e3, .inl (eI E, 6, .inl t3))] [(0, .ref hE), (1, .int (nI p))] [] 0
  refine r_iload_n C (i := 1) 1 dX0_reason_0 rfl rfl ?_
  refine r_if_ltF C (y := 0) (tgt := 27) dX0_reason_1 (by decide) (fun z => ((by omega) : ¬ (p < 0)) ((z_ltN (by omega)).mp z)) ?_
  refine r_iload_n C (i := 1) 1 dX0_reason_4 rfl rfl ?_
  refine r_aload_n C (i := 0) 0 dX0_reason_5 rfl rfl ?_
  refine r_get C 0 3 uX0 rfl rfl (by decide) w_1_82 rfl dX0_reason_6 ?_
  refine r_icmp_geF C (tgt := 27) dX0_reason_9 (by decide) (fun z => ((by omega) : ¬ (par ≤ p)) ((c_leNN (by omega) (by omega)).mp z)) ?_
  refine r_iload_n C (i := 1) 1 dX0_reason_12 rfl rfl ?_
  refine r_bipush C dX0_reason_13 kb_6 ?_
  refine r_icmp_geF C (tgt := 27) dX0_reason_15 (by decide) (fun z => ((by omega) : ¬ (6 ≤ p)) ((c_leNN (by omega) (by omega)).mp z)) ?_
  refine r_aload_n C (i := 0) 0 dX0_reason_18 rfl rfl ?_
  refine r_get C 0 1 uX0 rfl rfl (by decide) w_1_80 rfl dX0_reason_19 ?_
  refine r_iload_n C (i := 1) 1 dX0_reason_22 rfl rfl ?_
  refine r_iald (j := p) (v := nI (Wy σ n p)) C 2 rfl (by omega) (by decide) ((hE1 p hp).2.1) dX0_reason_23 ?_
  refine r_goto C 28 dX0_reason_24 (by decide) ?_
  exact RT.1 _ _ _ _ _ dX0_reason_28 rfl rfl (rd_i rfl) rfl
set_option maxRecDepth 100000 in
set_option maxHeartbeats 1000000 in
theorem c_X0_slipOf {l : Launch} {E : Ev} {hE e1 e2 e3 par fre pri sls drk pla tks : Nat} {t1 t2 t3 : Nat → Int32} {σ : Sg} {n : Nat} (hEv : EvI σ n par drk pla tks t1 t2 t3) (hW : Wf σ) {p : Nat} (hp : p < sP σ) : Cr l E yX0_slipOf cX0_slipOf 2 (some FieldType.int) 0 0 [.ref hE, .int (nI p)] [(hE, .inr (0, [.ref e1, .ref e2, .ref e3, .int (nI par), .int (nI fre), .int (nI pri), .int (nI sls), .int (nI drk), .int (nI pla), .int (nI tks)])), (e1, .inl (eI E, 6, .inl t1)), (e2, .inl (eI E, 6, .inl t2)), (e3, .inl (eI E, 6, .inl t3))] (some (.int (mI (Bs σ n p)))) := by
  have hEv0 := hEv
  obtain ⟨hpar, hdrk, hpla, htks, hE1⟩ := hEv
  have hwP := hW.P
  have hdl := dk_le σ n
  refine ct_of (by decide +kernel) (Nat.le_of_ble_eq_true rfl) (fun ω C RT => ?_)
  show ω [(hE, .inr (0, [.ref e1, .ref e2, .ref e3, .int (nI par), .int (nI fre), .int (nI pri), .int (nI sls), .int (nI drk), .int (nI pla), .int (nI tks)])), (e1, .inl (eI E, 6, .inl t1)), (e2, .inl (eI E, 6, .inl t2)), (e3, .inl (eI E, 6, .inl t3))] [(0, .ref hE), (1, .int (nI p))] [] 0
  refine r_iload_n C (i := 1) 1 dX0_slipOf_0 rfl rfl ?_
  refine r_if_ltF C (y := 0) (tgt := 27) dX0_slipOf_1 (by decide) (fun z => ((by omega) : ¬ (p < 0)) ((z_ltN (by omega)).mp z)) ?_
  refine r_iload_n C (i := 1) 1 dX0_slipOf_4 rfl rfl ?_
  refine r_aload_n C (i := 0) 0 dX0_slipOf_5 rfl rfl ?_
  refine r_get C 0 3 uX0 rfl rfl (by decide) w_1_82 rfl dX0_slipOf_6 ?_
  refine r_icmp_geF C (tgt := 27) dX0_slipOf_9 (by decide) (fun z => ((by omega) : ¬ (par ≤ p)) ((c_leNN (by omega) (by omega)).mp z)) ?_
  refine r_iload_n C (i := 1) 1 dX0_slipOf_12 rfl rfl ?_
  refine r_bipush C dX0_slipOf_13 kb_6 ?_
  refine r_icmp_geF C (tgt := 27) dX0_slipOf_15 (by decide) (fun z => ((by omega) : ¬ (6 ≤ p)) ((c_leNN (by omega) (by omega)).mp z)) ?_
  refine r_aload_n C (i := 0) 0 dX0_slipOf_18 rfl rfl ?_
  refine r_get C 0 2 uX0 rfl rfl (by decide) w_1_81 rfl dX0_slipOf_19 ?_
  refine r_iload_n C (i := 1) 1 dX0_slipOf_22 rfl rfl ?_
  refine r_iald (j := p) (v := mI (Bs σ n p)) C 3 rfl (by omega) (by decide) ((hE1 p hp).2.2) dX0_slipOf_23 ?_
  refine r_goto C 28 dX0_slipOf_24 (by decide) ?_
  exact RT.1 _ _ _ _ _ dX0_slipOf_28 rfl rfl (rd_i rfl) rfl
set_option maxRecDepth 100000 in
set_option maxHeartbeats 1000000 in
theorem c_X0_player {l : Launch} {E : Ev} {hE e1 e2 e3 par fre pri sls drk pla tks : Nat} {t1 t2 t3 : Nat → Int32} {σ : Sg} {n : Nat} (hEv : EvI σ n par drk pla tks t1 t2 t3) (hW : Wf σ) {p : Nat} (hp : p < sP σ) : Cr l E yX0_player cX0_player 2 (some FieldType.int) 1 21 [.ref hE, .int (nI p)] [(hE, .inr (0, [.ref e1, .ref e2, .ref e3, .int (nI par), .int (nI fre), .int (nI pri), .int (nI sls), .int (nI drk), .int (nI pla), .int (nI tks)])), (e1, .inl (eI E, 6, .inl t1)), (e2, .inl (eI E, 6, .inl t2)), (e3, .inl (eI E, 6, .inl t3))] (some (.int (mI (pT σ n p)))) := by
  have hEv0 := hEv
  obtain ⟨hpar, hdrk, hpla, htks, hE1⟩ := hEv
  have hwP := hW.P
  have hdl := dk_le σ n
  refine ct_of (by decide +kernel) (Nat.le_of_ble_eq_true rfl) (fun ω C RT => ?_)
  show ω [(hE, .inr (0, [.ref e1, .ref e2, .ref e3, .int (nI par), .int (nI fre), .int (nI pri), .int (nI sls), .int (nI drk), .int (nI pla), .int (nI tks)])), (e1, .inl (eI E, 6, .inl t1)), (e2, .inl (eI E, 6, .inl t2)), (e3, .inl (eI E, 6, .inl t3))] [(0, .ref hE), (1, .int (nI p))] [] 0
  refine r_aload_n C (i := 0) 0 dX0_player_0 rfl rfl ?_
  refine r_get C 0 7 uX0 rfl rfl (by decide) w_1_86 rfl dX0_player_1 ?_
  refine r_if_eq C (y := 0) (c9 := drk = 0) 11 dX0_player_4 (by decide) (z_eqN (by omega)) (fun h4_1 => ?_) (fun h4_1 => ?_)
  · refine r_aload_n C (i := 0) 0 dX0_player_11 rfl rfl ?_
    refine r_iload_n C (i := 1) 1 dX0_player_12 rfl rfl ?_
    refine r_readV (rest := []) C (c_X0_takenFor (hE := hE) (e1 := e1) (e2 := e2) (e3 := e3) (par := par) (fre := fre) (pri := pri) (sls := sls) (drk := drk) (pla := pla) (tks := tks) (t1 := t1) (t2 := t2) (t3 := t3) (σ := σ) (n := n) (p := p) (hEv := hEv0) (hW := hW) (hp := (by omega))) lk_X0_takenFor w_3_155 [0, 1, 2, 3] rfl dX0_player_13 rfl rfl rfl rfl ⟨by decide, by decide⟩ (Nat.le_of_ble_eq_true rfl) (st' := [.int (mI (T σ n p))]) rfl ?_
    exact RT.1 _ _ _ _ _ dX0_player_16 rfl rfl (rd_i (congrArg mI (by rw [pT, if_pos (by omega)]))) rfl
  · refine r_iconst C dX0_player_7 ki_m1 ?_
    refine r_goto C 16 dX0_player_8 (by decide) ?_
    exact RT.1 _ _ _ _ _ dX0_player_16 rfl rfl (rd_i (congrArg mI (by rw [pT, if_neg (by omega)]))) rfl
set_option maxRecDepth 100000 in
set_option maxHeartbeats 1000000 in
theorem c_X0_slipsPlayed {l : Launch} {E : Ev} {hE e1 e2 e3 par fre pri sls drk pla tks : Nat} {t1 t2 t3 : Nat → Int32} {σ : Sg} {n : Nat} (hEv : EvI σ n par drk pla tks t1 t2 t3) (hW : Wf σ) : Cr l E yX0_slipsPlayed cX0_slipsPlayed 3 (some FieldType.int) 1 21 [.ref hE] [(hE, .inr (0, [.ref e1, .ref e2, .ref e3, .int (nI par), .int (nI fre), .int (nI pri), .int (nI sls), .int (nI drk), .int (nI pla), .int (nI tks)])), (e1, .inl (eI E, 6, .inl t1)), (e2, .inl (eI E, 6, .inl t2)), (e3, .inl (eI E, 6, .inl t3))] (some (.int (nI (splN σ n (sP σ))))) := by
  have hEv0 := hEv
  obtain ⟨hpar, hdrk, hpla, htks, hE1⟩ := hEv
  have hwP := hW.P
  have hdl := dk_le σ n
  have hBl := fun p => Bs_le σ n p
  have hwS := hW.S
  refine ct_of (by decide +kernel) (Nat.le_of_ble_eq_true rfl) (fun ω C RT => ?_)
  show ω [(hE, .inr (0, [.ref e1, .ref e2, .ref e3, .int (nI par), .int (nI fre), .int (nI pri), .int (nI sls), .int (nI drk), .int (nI pla), .int (nI tks)])), (e1, .inl (eI E, 6, .inl t1)), (e2, .inl (eI E, 6, .inl t2)), (e3, .inl (eI E, 6, .inl t3))] [(0, .ref hE)] [] 0
  refine r_iconst C dX0_slipsPlayed_0 ki_0 ?_
  refine r_istore_n C (lv' := [(1, .int (nI 0)), (0, .ref hE)]) dX0_slipsPlayed_1 rfl (by decide) rfl ?_
  refine r_iconst C dX0_slipsPlayed_2 ki_0 ?_
  refine r_istore_n C (lv' := [(2, .int (nI 0)), (1, .int (nI 0)), (0, .ref hE)]) dX0_slipsPlayed_3 rfl (by decide) rfl ?_
  have loop4_1 : ∀ (dd9 : Nat) (p : Nat) (r : Nat), sP σ - p < dd9 → (p ≤ sP σ) → (r = splN σ n p) → ω [(hE, .inr (0, [.ref e1, .ref e2, .ref e3, .int (nI par), .int (nI fre), .int (nI pri), .int (nI sls), .int (nI drk), .int (nI pla), .int (nI tks)])), (e1, .inl (eI E, 6, .inl t1)), (e2, .inl (eI E, 6, .inl t2)), (e3, .inl (eI E, 6, .inl t3))] [(2, .int (nI p)), (1, .int (nI r)), (0, .ref hE)] [] 4 := by
    intro dd9
    induction dd9 with
    | zero => intro p r hd; exact absurd hd (Nat.not_lt_zero _)
    | succ dd9 ih2 =>
      intro p r hd hle_p he_r
      have hBp := hBl p
      have hsp := splN_le σ n p
      refine r_iload_n C (i := 2) 0 dX0_slipsPlayed_4 rfl rfl ?_
      refine r_aload_n C (i := 0) 2 dX0_slipsPlayed_5 rfl rfl ?_
      refine r_get C 0 3 uX0 rfl rfl (by decide) w_1_82 rfl dX0_slipsPlayed_6 ?_
      refine r_icmp_ge C (c9 := par ≤ p) 37 dX0_slipsPlayed_9 (by decide) (c_leNN (by omega) (by omega)) (fun h9_3 => ?_) (fun h9_3 => ?_)
      · refine r_iload_n C (i := 1) 1 dX0_slipsPlayed_37 rfl rfl ?_
        exact RT.1 _ _ _ _ _ dX0_slipsPlayed_38 rfl rfl (rd_i (congrArg nI (by rw [he_r, (by omega : p = sP σ)]))) rfl
      · refine r_aload_n C (i := 0) 2 dX0_slipsPlayed_12 rfl rfl ?_
        refine r_get C 0 7 uX0 rfl rfl (by decide) w_1_86 rfl dX0_slipsPlayed_13 ?_
        refine r_if_ne C (y := 0) (c9 := drk ≠ 0) 31 dX0_slipsPlayed_16 (by decide) (z_neN (by omega)) (fun h16_4 => ?_) (fun h16_4 => ?_)
        · refine r_iinc C (lv' := [(2, .int (nI (p + 1))), (1, .int (nI r)), (0, .ref hE)]) (v := nI (p + 1)) 0 dX0_slipsPlayed_31 rfl (v_inc _) (by decide) rfl ?_
          refine r_goto C 4 dX0_slipsPlayed_34 (by decide) ?_
          exact ih2 (p + 1) r (by omega) (by omega) (by rw [splN, if_neg (by omega), Nat.add_zero, he_r])
        · refine r_aload_n C (i := 0) 2 dX0_slipsPlayed_19 rfl rfl ?_
          refine r_iload_n C (i := 2) 0 dX0_slipsPlayed_20 rfl rfl ?_
          refine r_readV (rest := []) C (c_X0_slipOf (hE := hE) (e1 := e1) (e2 := e2) (e3 := e3) (par := par) (fre := fre) (pri := pri) (sls := sls) (drk := drk) (pla := pla) (tks := tks) (t1 := t1) (t2 := t2) (t3 := t3) (σ := σ) (n := n) (p := p) (hEv := hEv0) (hW := hW) (hp := (by omega))) lk_X0_slipOf w_3_171 [0, 1, 2, 3] rfl dX0_slipsPlayed_21 rfl rfl rfl rfl ⟨by decide, by decide⟩ (Nat.le_of_ble_eq_true rfl) (st' := [.int (mI (Bs σ n p))]) rfl ?_
          refine r_iconst C dX0_slipsPlayed_24 ki_m1 ?_
          refine r_icmp_eq C (c9 := Bs σ n p = 0) 31 dX0_slipsPlayed_25 (by decide) (c_eqMM (by omega) (by omega)) (fun h25_5 => ?_) (fun h25_5 => ?_)
          · refine r_iinc C (lv' := [(2, .int (nI (p + 1))), (1, .int (nI r)), (0, .ref hE)]) (v := nI (p + 1)) 0 dX0_slipsPlayed_31 rfl (v_inc _) (by decide) rfl ?_
            refine r_goto C 4 dX0_slipsPlayed_34 (by decide) ?_
            exact ih2 (p + 1) r (by omega) (by omega) (by rw [splN, if_neg (by omega), Nat.add_zero, he_r])
          · refine r_iinc C (lv' := [(1, .int (nI (r + 1))), (2, .int (nI p)), (0, .ref hE)]) (v := nI (r + 1)) 1 dX0_slipsPlayed_28 rfl (v_inc _) (by decide) rfl ?_
            refine r_iinc C (lv' := [(2, .int (nI (p + 1))), (1, .int (nI (r + 1))), (0, .ref hE)]) (v := nI (p + 1)) 1 dX0_slipsPlayed_31 rfl (v_inc _) (by decide) rfl ?_
            refine r_goto C 4 dX0_slipsPlayed_34 (by decide) ?_
            exact ih2 (p + 1) (r + 1) (by omega) (by omega) (by rw [splN, if_pos (by omega), he_r])
  exact loop4_1 _ 0 0 (Nat.lt_succ_self _) (by omega) rfl
set_option maxRecDepth 100000 in
set_option maxHeartbeats 1000000 in
theorem c_X0_billAsNumber {l : Launch} {E : Ev} {hE e1 e2 e3 par fre pri sls drk pla tks : Nat} {t1 t2 t3 : Nat → Int32} {σ : Sg} {n : Nat} (hEv : EvI σ n par drk pla tks t1 t2 t3) (hW : Wf σ) (hn : n < 20) (hd0 : dk σ n = 0) : Cr l E yX0_billAsNumber cX0_billAsNumber 3 (some FieldType.int) 2 42 [.ref hE] [(hE, .inr (0, [.ref e1, .ref e2, .ref e3, .int (nI par), .int (nI fre), .int (nI pri), .int (nI sls), .int (nI drk), .int (nI pla), .int (nI tks)])), (e1, .inl (eI E, 6, .inl t1)), (e2, .inl (eI E, 6, .inl t2)), (e3, .inl (eI E, 6, .inl t3))] (some (.int (nI (biN σ n (sP σ))))) := by
  have hEv0 := hEv
  obtain ⟨hpar, hdrk, hpla, htks, hE1⟩ := hEv
  have hwP := hW.P
  have hdl := dk_le σ n
  have hTp := (dk_iff.mp hd0).2
  refine ct_of (by decide +kernel) (Nat.le_of_ble_eq_true rfl) (fun ω C RT => ?_)
  show ω [(hE, .inr (0, [.ref e1, .ref e2, .ref e3, .int (nI par), .int (nI fre), .int (nI pri), .int (nI sls), .int (nI drk), .int (nI pla), .int (nI tks)])), (e1, .inl (eI E, 6, .inl t1)), (e2, .inl (eI E, 6, .inl t2)), (e3, .inl (eI E, 6, .inl t3))] [(0, .ref hE)] [] 0
  refine r_iconst C dX0_billAsNumber_0 ki_0 ?_
  refine r_istore_n C (lv' := [(1, .int (nI 0)), (0, .ref hE)]) dX0_billAsNumber_1 rfl (by decide) rfl ?_
  refine r_iconst C dX0_billAsNumber_2 ki_0 ?_
  refine r_istore_n C (lv' := [(2, .int (nI 0)), (1, .int (nI 0)), (0, .ref hE)]) dX0_billAsNumber_3 rfl (by decide) rfl ?_
  have loop4_1 : ∀ (dd9 : Nat) (p : Nat) (r : Nat), sP σ - p < dd9 → (p ≤ sP σ) → (r = biN σ n p) → ω [(hE, .inr (0, [.ref e1, .ref e2, .ref e3, .int (nI par), .int (nI fre), .int (nI pri), .int (nI sls), .int (nI drk), .int (nI pla), .int (nI tks)])), (e1, .inl (eI E, 6, .inl t1)), (e2, .inl (eI E, 6, .inl t2)), (e3, .inl (eI E, 6, .inl t3))] [(2, .int (nI p)), (1, .int (nI r)), (0, .ref hE)] [] 4 := by
    intro dd9
    induction dd9 with
    | zero => intro p r hd; exact absurd hd (Nat.not_lt_zero _)
    | succ dd9 ih2 =>
      intro p r hd hle_p he_r
      have hbl := biN_lt hW hn hle_p
      have hpw : (10 : Nat) ^ p ≤ 1000000 := (Nat.pow_le_pow_right (by decide) (by omega : p ≤ 6) : 10 ^ p ≤ 10 ^ 6)
      refine r_iload_n C (i := 2) 0 dX0_billAsNumber_4 rfl rfl ?_
      refine r_aload_n C (i := 0) 2 dX0_billAsNumber_5 rfl rfl ?_
      refine r_get C 0 3 uX0 rfl rfl (by decide) w_1_82 rfl dX0_billAsNumber_6 ?_
      refine r_icmp_ge C (c9 := par ≤ p) 29 dX0_billAsNumber_9 (by decide) (c_leNN (by omega) (by omega)) (fun h9_3 => ?_) (fun h9_3 => ?_)
      · refine r_iload_n C (i := 1) 1 dX0_billAsNumber_29 rfl rfl ?_
        exact RT.1 _ _ _ _ _ dX0_billAsNumber_30 rfl rfl (rd_i (congrArg nI (by rw [he_r, (by omega : p = sP σ)]))) rfl
      · refine r_iload_n C (i := 1) 1 dX0_billAsNumber_12 rfl rfl ?_
        refine r_bipush C dX0_billAsNumber_13 kb_10 ?_
        refine r_imul (v := nI (r * 10)) C dX0_billAsNumber_15 (pk_mul _ _) ?_
        refine r_aload_n C (i := 0) 2 dX0_billAsNumber_16 rfl rfl ?_
        refine r_iload_n C (i := 2) 0 dX0_billAsNumber_17 rfl rfl ?_
        refine r_readV (rest := [.int (nI (r * 10))]) C (c_X0_player (hE := hE) (e1 := e1) (e2 := e2) (e3 := e3) (par := par) (fre := fre) (pri := pri) (sls := sls) (drk := drk) (pla := pla) (tks := tks) (t1 := t1) (t2 := t2) (t3 := t3) (σ := σ) (n := n) (p := p) (hEv := hEv0) (hW := hW) (hp := (by omega))) lk_X0_player w_3_151 [0, 1, 2, 3] rfl dX0_billAsNumber_18 rfl rfl rfl rfl ⟨by decide, by decide⟩ (Nat.le_of_ble_eq_true rfl) (st' := [.int (mI (pT σ n p)), .int (nI (r * 10))]) rfl ?_
        have hT0 := hTp p (by omega)
        have hTl := T_le hW (show p < sP σ by omega) hn
        have hwA := hW.A
        refine r_st (st' := [.int (nI (T σ n p - 1)), .int (nI (r * 10))]) (by rw [pT, if_pos hd0, show T σ n p = T σ n p - 1 + 1 from by omega, mI_s, Nat.add_sub_cancel]) ?_
        refine r_iadd (v := nI ((r * 10) + (T σ n p - 1))) C dX0_billAsNumber_21 (nI_add _ _) ?_
        refine r_istore_n C (lv' := [(1, .int (nI ((r * 10) + (T σ n p - 1)))), (2, .int (nI p)), (0, .ref hE)]) dX0_billAsNumber_22 rfl (by decide) rfl ?_
        refine r_iinc C (lv' := [(2, .int (nI (p + 1))), (1, .int (nI ((r * 10) + (T σ n p - 1)))), (0, .ref hE)]) (v := nI (p + 1)) 1 dX0_billAsNumber_23 rfl (v_inc _) (by decide) rfl ?_
        refine r_goto C 4 dX0_billAsNumber_26 (by decide) ?_
        exact ih2 (p + 1) ((r * 10) + (T σ n p - 1)) (by omega) (by omega) (by rw [biN, he_r])
  exact loop4_1 _ 0 0 (Nat.lt_succ_self _) (by omega) rfl
set_option maxRecDepth 100000 in
set_option maxHeartbeats 1000000 in
theorem c_X3_tally {l : Launch} {E : Ev} {hZ sd st : Nat} {hE e1 e2 e3 par fre pri sls drk pla tks : Nat} {t1 t2 t3 : Nat → Int32} {h0 q1 : Nat} {f : Nat → Int32} {σ : Sg} (hR : RepC σ f) (hW : Wf σ) : Ct l E yX3_tally cX3_tally 3 none 4 95 [.ref hZ, .ref h0] [(hZ, .inr (3, [.ref hE, .int (nI sd), .int (nI st)])), (hE, .inr (0, [.ref e1, .ref e2, .ref e3, .int (nI par), .int (nI fre), .int (nI pri), .int (nI sls), .int (nI drk), .int (nI pla), .int (nI tks)])), (e1, .inl (eI E, 6, .inl t1)), (e2, .inl (eI E, 6, .inl t2)), (e3, .inl (eI E, 6, .inl t3)), (h0, .inr (4, [.ref q1])), (q1, .inl (eI E, 265, .inl f))] (fun v9 w9 => ∃ (par fre pri sls drk pla tks : Nat) (ta tb tc : Nat → Int32), v9 = none ∧ w9 = [(hZ, .inr (3, [.ref hE, .int (nI (dkS σ 20)), .int (nI (tkS σ 20))])), (hE, .inr (0, [.ref e1, .ref e2, .ref e3, .int (nI par), .int (nI fre), .int (nI pri), .int (nI sls), .int (nI drk), .int (nI pla), .int (nI tks)])), (e1, .inl (eI E, 6, .inl ta)), (e2, .inl (eI E, 6, .inl tb)), (e3, .inl (eI E, 6, .inl tc)), (h0, .inr (4, [.ref q1])), (q1, .inl (eI E, 265, .inl f))]) := by
  have hwP := hW.P
  have hwA := hW.A
  have hwS := hW.S
  refine ct_of (by decide +kernel) (Nat.le_of_ble_eq_true rfl) (fun ω C RT => ?_)
  show ω [(hZ, .inr (3, [.ref hE, .int (nI sd), .int (nI st)])), (hE, .inr (0, [.ref e1, .ref e2, .ref e3, .int (nI par), .int (nI fre), .int (nI pri), .int (nI sls), .int (nI drk), .int (nI pla), .int (nI tks)])), (e1, .inl (eI E, 6, .inl t1)), (e2, .inl (eI E, 6, .inl t2)), (e3, .inl (eI E, 6, .inl t3)), (h0, .inr (4, [.ref q1])), (q1, .inl (eI E, 265, .inl f))] [(0, .ref hZ), (1, .ref h0)] [] 0
  refine r_aload_n C (i := 0) 0 dX3_tally_0 rfl rfl ?_
  refine r_iconst C dX3_tally_1 ki_0 ?_
  refine r_put (ws' := [(hZ, .inr (3, [.ref hE, .int (nI 0), .int (nI st)])), (hE, .inr (0, [.ref e1, .ref e2, .ref e3, .int (nI par), .int (nI fre), .int (nI pri), .int (nI sls), .int (nI drk), .int (nI pla), .int (nI tks)])), (e1, .inl (eI E, 6, .inl t1)), (e2, .inl (eI E, 6, .inl t2)), (e3, .inl (eI E, 6, .inl t3)), (h0, .inr (4, [.ref q1])), (q1, .inl (eI E, 265, .inl f))]) C 0 1 uX3 rfl tyX3_ok nmX3 rfl (by decide) w_1_119 rfl (tyX3_ok 1 (by decide)) rfl rfl (Nat.le_of_ble_eq_true rfl) rfl dX3_tally_2 ?_
  refine r_aload_n C (i := 0) 0 dX3_tally_5 rfl rfl ?_
  refine r_iconst C dX3_tally_6 ki_0 ?_
  refine r_put (ws' := [(hZ, .inr (3, [.ref hE, .int (nI 0), .int (nI 0)])), (hE, .inr (0, [.ref e1, .ref e2, .ref e3, .int (nI par), .int (nI fre), .int (nI pri), .int (nI sls), .int (nI drk), .int (nI pla), .int (nI tks)])), (e1, .inl (eI E, 6, .inl t1)), (e2, .inl (eI E, 6, .inl t2)), (e3, .inl (eI E, 6, .inl t3)), (h0, .inr (4, [.ref q1])), (q1, .inl (eI E, 265, .inl f))]) C 0 2 uX3 rfl tyX3_ok nmX3 rfl (by decide) w_1_120 rfl (tyX3_ok 2 (by decide)) rfl rfl (Nat.le_of_ble_eq_true rfl) rfl dX3_tally_7 ?_
  refine r_iconst C dX3_tally_10 ki_0 ?_
  refine r_istore_n C (lv' := [(2, .int (nI 0)), (0, .ref hZ), (1, .ref h0)]) dX3_tally_11 rfl (by decide) rfl ?_
  have loop12_1 : ∀ (dd9 : Nat) (n : Nat) (sd1 : Nat) (st1 : Nat) (par1 : Nat) (fre1 : Nat) (pri1 : Nat) (sls1 : Nat) (drk1 : Nat) (pla1 : Nat) (tks1 : Nat) (t11 : Nat → Int32) (t21 : Nat → Int32) (t31 : Nat → Int32), 20 - n < dd9 → (n ≤ 20) → (sd1 = dkS σ n) → (st1 = tkS σ n) → ω [(hZ, .inr (3, [.ref hE, .int (nI sd1), .int (nI st1)])), (hE, .inr (0, [.ref e1, .ref e2, .ref e3, .int (nI par1), .int (nI fre1), .int (nI pri1), .int (nI sls1), .int (nI drk1), .int (nI pla1), .int (nI tks1)])), (e1, .inl (eI E, 6, .inl t11)), (e2, .inl (eI E, 6, .inl t21)), (e3, .inl (eI E, 6, .inl t31)), (h0, .inr (4, [.ref q1])), (q1, .inl (eI E, 265, .inl f))] [(2, .int (nI n)), (0, .ref hZ), (1, .ref h0)] [] 12 := by
    intro dd9
    induction dd9 with
    | zero => intro n sd1 st1 par1 fre1 pri1 sls1 drk1 pla1 tks1 t11 t21 t31 hd; exact absurd hd (Nat.not_lt_zero _)
    | succ dd9 ih2 =>
      intro n sd1 st1 par1 fre1 pri1 sls1 drk1 pla1 tks1 t11 t21 t31 hd hn hsd hst
      have hdk := dk_le σ n
      have hds := dkS_le σ n
      have hts2 := tkS_le hW hn
      refine r_iload_n C (i := 2) 0 dX3_tally_12 rfl rfl ?_
      refine r_bipush C dX3_tally_13 kb_20 ?_
      refine r_icmp_ge C (c9 := 20 ≤ n) 73 dX3_tally_15 (by decide) (c_leNN (by omega) (by omega)) (fun h15_3 => ?_) (fun h15_3 => ?_)
      · exact RT.2.2.1 _ _ _ dX3_tally_73 rfl (⟨_, _, _, _, _, _, _, _, _, _, rfl, by rw [hsd, hst, (by omega : n = 20)]⟩) rfl
      · refine r_aload_n C (i := 0) 1 dX3_tally_18 rfl rfl ?_
        refine r_get C 0 0 uX3 rfl rfl (by decide) w_1_118 rfl dX3_tally_19 ?_
        refine r_aload_n C (i := 1) 2 dX3_tally_22 rfl rfl ?_
        refine r_iload_n C (i := 2) 0 dX3_tally_23 rfl rfl ?_
        refine r_callV (rest := []) C (c_X0_workOut (hE := hE) (e1 := e1) (e2 := e2) (e3 := e3) (par := par1) (fre := fre1) (pri := pri1) (sls := sls1) (drk := drk1) (pla := pla1) (tks := tks1) (t1 := t11) (t2 := t21) (t3 := t31) (h0 := h0) (q1 := q1) (f := f) (σ := σ) (n := n) (hR := hR) (hW := hW) (hn := (by omega))) lk_X0_workOut w_3_52 [1, 2, 3, 4, 5, 6] rfl dX3_tally_24 rfl rfl rfl rfl ⟨by decide, by decide⟩ (Nat.le_of_ble_eq_true rfl) ?_
        rintro _ _ ⟨par_4, fre_5, pri_6, sls_7, drk_8, pla_9, tks_10, ta_11, tb_12, tc_13, rfl, rfl, hEv_14⟩
        show ω [(hZ, .inr (3, [.ref hE, .int (nI sd1), .int (nI st1)])), (hE, .inr (0, [.ref e1, .ref e2, .ref e3, .int (nI par_4), .int (nI fre_5), .int (nI pri_6), .int (nI sls_7), .int (nI drk_8), .int (nI pla_9), .int (nI tks_10)])), (e1, .inl (eI E, 6, .inl ta_11)), (e2, .inl (eI E, 6, .inl tb_12)), (e3, .inl (eI E, 6, .inl tc_13)), (h0, .inr (4, [.ref q1])), (q1, .inl (eI E, 265, .inl f))] [(2, .int (nI n)), (0, .ref hZ), (1, .ref h0)] [] 27
        refine r_aload_n C (i := 0) 1 dX3_tally_27 rfl rfl ?_
        refine r_dup C dX3_tally_28 rfl ?_
        refine r_get C 0 1 uX3 rfl rfl (by decide) w_1_119 rfl dX3_tally_29 ?_
        refine r_aload_n C (i := 0) 1 dX3_tally_32 rfl rfl ?_
        refine r_get C 0 0 uX3 rfl rfl (by decide) w_1_118 rfl dX3_tally_33 ?_
        refine r_readV (rest := [.int (nI sd1), .ref hZ]) C (c_X0_isDark (hE := hE) (e1 := e1) (e2 := e2) (e3 := e3) (par := par_4) (fre := fre_5) (pri := pri_6) (sls := sls_7) (drk := drk_8) (pla := pla_9) (tks := tks_10) (t1 := ta_11) (t2 := tb_12) (t3 := tc_13) (σ := σ) (n := n) (hEv := hEv_14) (hW := hW)) lk_X0_isDark w_3_125 [1, 2, 3, 4] rfl dX3_tally_36 rfl rfl rfl rfl ⟨by decide, by decide⟩ (Nat.le_of_ble_eq_true rfl) (st' := [.int (nI (dk σ n)), .int (nI sd1), .ref hZ]) rfl ?_
        refine r_if_eq C (y := 0) (c9 := dk σ n = 0) 46 dX3_tally_39 (by decide) (z_eqN (by omega)) (fun h39_15 => ?_) (fun h39_15 => ?_)
        · refine r_iconst C dX3_tally_46 ki_0 ?_
          refine r_iadd (v := nI (sd1 + 0)) C dX3_tally_47 (nI_add _ _) ?_
          refine r_put (ws' := [(hZ, .inr (3, [.ref hE, .int (nI (sd1 + 0)), .int (nI st1)])), (hE, .inr (0, [.ref e1, .ref e2, .ref e3, .int (nI par_4), .int (nI fre_5), .int (nI pri_6), .int (nI sls_7), .int (nI drk_8), .int (nI pla_9), .int (nI tks_10)])), (e1, .inl (eI E, 6, .inl ta_11)), (e2, .inl (eI E, 6, .inl tb_12)), (e3, .inl (eI E, 6, .inl tc_13)), (h0, .inr (4, [.ref q1])), (q1, .inl (eI E, 265, .inl f))]) C 0 1 uX3 rfl tyX3_ok nmX3 rfl (by decide) w_1_119 rfl (tyX3_ok 1 (by decide)) rfl rfl (Nat.le_of_ble_eq_true rfl) rfl dX3_tally_48 ?_
          refine r_aload_n C (i := 0) 1 dX3_tally_51 rfl rfl ?_
          refine r_dup C dX3_tally_52 rfl ?_
          refine r_get C 0 2 uX3 rfl rfl (by decide) w_1_120 rfl dX3_tally_53 ?_
          refine r_aload_n C (i := 0) 1 dX3_tally_56 rfl rfl ?_
          refine r_get C 0 0 uX3 rfl rfl (by decide) w_1_118 rfl dX3_tally_57 ?_
          have htl := tak_le hW (show n < 20 by omega)
          refine r_readV (rest := [.int (nI st1), .ref hZ]) C (c_X0_takings (hE := hE) (e1 := e1) (e2 := e2) (e3 := e3) (par := par_4) (fre := fre_5) (pri := pri_6) (sls := sls_7) (drk := drk_8) (pla := pla_9) (tks := tks_10) (t1 := ta_11) (t2 := tb_12) (t3 := tc_13) (σ := σ) (n := n) (hEv := hEv_14) (hW := hW)) lk_X0_takings w_3_129 [1, 2, 3, 4] rfl dX3_tally_60 rfl rfl rfl rfl ⟨by decide, by decide⟩ (Nat.le_of_ble_eq_true rfl) (st' := [.int (nI (tak σ n)), .int (nI st1), .ref hZ]) rfl ?_
          refine r_iadd (v := nI (st1 + (tak σ n))) C dX3_tally_63 (nI_add _ _) ?_
          refine r_put (ws' := [(hZ, .inr (3, [.ref hE, .int (nI (sd1 + 0)), .int (nI (st1 + (tak σ n)))])), (hE, .inr (0, [.ref e1, .ref e2, .ref e3, .int (nI par_4), .int (nI fre_5), .int (nI pri_6), .int (nI sls_7), .int (nI drk_8), .int (nI pla_9), .int (nI tks_10)])), (e1, .inl (eI E, 6, .inl ta_11)), (e2, .inl (eI E, 6, .inl tb_12)), (e3, .inl (eI E, 6, .inl tc_13)), (h0, .inr (4, [.ref q1])), (q1, .inl (eI E, 265, .inl f))]) C 0 2 uX3 rfl tyX3_ok nmX3 rfl (by decide) w_1_120 rfl (tyX3_ok 2 (by decide)) rfl rfl (Nat.le_of_ble_eq_true rfl) rfl dX3_tally_64 ?_
          refine r_iinc C (lv' := [(2, .int (nI (n + 1))), (0, .ref hZ), (1, .ref h0)]) (v := nI (n + 1)) 0 dX3_tally_67 rfl (v_inc _) (by decide) rfl ?_
          refine r_goto C 12 dX3_tally_70 (by decide) ?_
          exact ih2 (n + 1) (sd1 + 0) (st1 + (tak σ n)) par_4 fre_5 pri_6 sls_7 drk_8 pla_9 tks_10 ta_11 tb_12 tc_13 (by omega) (by omega) (by rw [dkS, hsd]; omega) (by rw [tkS, hst])
        · refine r_iconst C dX3_tally_42 ki_1 ?_
          refine r_goto C 47 dX3_tally_43 (by decide) ?_
          refine r_iadd (v := nI (sd1 + 1)) C dX3_tally_47 (nI_add _ _) ?_
          refine r_put (ws' := [(hZ, .inr (3, [.ref hE, .int (nI (sd1 + 1)), .int (nI st1)])), (hE, .inr (0, [.ref e1, .ref e2, .ref e3, .int (nI par_4), .int (nI fre_5), .int (nI pri_6), .int (nI sls_7), .int (nI drk_8), .int (nI pla_9), .int (nI tks_10)])), (e1, .inl (eI E, 6, .inl ta_11)), (e2, .inl (eI E, 6, .inl tb_12)), (e3, .inl (eI E, 6, .inl tc_13)), (h0, .inr (4, [.ref q1])), (q1, .inl (eI E, 265, .inl f))]) C 0 1 uX3 rfl tyX3_ok nmX3 rfl (by decide) w_1_119 rfl (tyX3_ok 1 (by decide)) rfl rfl (Nat.le_of_ble_eq_true rfl) rfl dX3_tally_48 ?_
          refine r_aload_n C (i := 0) 1 dX3_tally_51 rfl rfl ?_
          refine r_dup C dX3_tally_52 rfl ?_
          refine r_get C 0 2 uX3 rfl rfl (by decide) w_1_120 rfl dX3_tally_53 ?_
          refine r_aload_n C (i := 0) 1 dX3_tally_56 rfl rfl ?_
          refine r_get C 0 0 uX3 rfl rfl (by decide) w_1_118 rfl dX3_tally_57 ?_
          have htl := tak_le hW (show n < 20 by omega)
          refine r_readV (rest := [.int (nI st1), .ref hZ]) C (c_X0_takings (hE := hE) (e1 := e1) (e2 := e2) (e3 := e3) (par := par_4) (fre := fre_5) (pri := pri_6) (sls := sls_7) (drk := drk_8) (pla := pla_9) (tks := tks_10) (t1 := ta_11) (t2 := tb_12) (t3 := tc_13) (σ := σ) (n := n) (hEv := hEv_14) (hW := hW)) lk_X0_takings w_3_129 [1, 2, 3, 4] rfl dX3_tally_60 rfl rfl rfl rfl ⟨by decide, by decide⟩ (Nat.le_of_ble_eq_true rfl) (st' := [.int (nI (tak σ n)), .int (nI st1), .ref hZ]) rfl ?_
          refine r_iadd (v := nI (st1 + (tak σ n))) C dX3_tally_63 (nI_add _ _) ?_
          refine r_put (ws' := [(hZ, .inr (3, [.ref hE, .int (nI (sd1 + 1)), .int (nI (st1 + (tak σ n)))])), (hE, .inr (0, [.ref e1, .ref e2, .ref e3, .int (nI par_4), .int (nI fre_5), .int (nI pri_6), .int (nI sls_7), .int (nI drk_8), .int (nI pla_9), .int (nI tks_10)])), (e1, .inl (eI E, 6, .inl ta_11)), (e2, .inl (eI E, 6, .inl tb_12)), (e3, .inl (eI E, 6, .inl tc_13)), (h0, .inr (4, [.ref q1])), (q1, .inl (eI E, 265, .inl f))]) C 0 2 uX3 rfl tyX3_ok nmX3 rfl (by decide) w_1_120 rfl (tyX3_ok 2 (by decide)) rfl rfl (Nat.le_of_ble_eq_true rfl) rfl dX3_tally_64 ?_
          refine r_iinc C (lv' := [(2, .int (nI (n + 1))), (0, .ref hZ), (1, .ref h0)]) (v := nI (n + 1)) 0 dX3_tally_67 rfl (v_inc _) (by decide) rfl ?_
          refine r_goto C 12 dX3_tally_70 (by decide) ?_
          exact ih2 (n + 1) (sd1 + 1) (st1 + (tak σ n)) par_4 fre_5 pri_6 sls_7 drk_8 pla_9 tks_10 ta_11 tb_12 tc_13 (by omega) (by omega) (by rw [dkS, hsd]; omega) (by rw [tkS, hst])
  exact loop12_1 _ 0 0 0 par fre pri sls drk pla tks t1 t2 t3 (Nat.lt_succ_self _) (by omega) rfl rfl
set_option maxRecDepth 100000 in
set_option maxHeartbeats 1000000 in
theorem c_X3_dark {l : Launch} {E : Ev} {hZ hE sd st : Nat} : Cr l E yX3_dark cX3_dark 1 (some FieldType.int) 0 0 [.ref hZ] [(hZ, .inr (3, [.ref hE, .int (nI sd), .int (nI st)]))] (some (.int (nI sd))) := by
  refine ct_of (by decide +kernel) (Nat.le_of_ble_eq_true rfl) (fun ω C RT => ?_)
  show ω [(hZ, .inr (3, [.ref hE, .int (nI sd), .int (nI st)]))] [(0, .ref hZ)] [] 0
  refine r_aload_n C (i := 0) 0 dX3_dark_0 rfl rfl ?_
  refine r_get C 0 1 uX3 rfl rfl (by decide) w_1_119 rfl dX3_dark_1 ?_
  exact RT.1 _ _ _ _ _ dX3_dark_4 rfl rfl (rd_i rfl) rfl
set_option maxRecDepth 100000 in
set_option maxHeartbeats 1000000 in
theorem c_X3_takings {l : Launch} {E : Ev} {hZ hE sd st : Nat} : Cr l E yX3_takings cX3_takings 1 (some FieldType.int) 0 0 [.ref hZ] [(hZ, .inr (3, [.ref hE, .int (nI sd), .int (nI st)]))] (some (.int (nI st))) := by
  refine ct_of (by decide +kernel) (Nat.le_of_ble_eq_true rfl) (fun ω C RT => ?_)
  show ω [(hZ, .inr (3, [.ref hE, .int (nI sd), .int (nI st)]))] [(0, .ref hZ)] [] 0
  refine r_aload_n C (i := 0) 0 dX3_takings_0 rfl rfl ?_
  refine r_get C 0 2 uX3 rfl rfl (by decide) w_1_120 rfl dX3_takings_1 ?_
  exact RT.1 _ _ _ _ _ dX3_takings_4 rfl rfl (rd_i rfl) rfl
set_option maxRecDepth 100000 in
set_option maxHeartbeats 1000000 in
theorem c_X3_isBetter {l : Launch} {E : Ev} {hZ hE sd st x y : Nat} (h1 : sd < 2147483648) (h2 : st < 2147483648) (h3 : x < 2147483648) (h4 : y < 2147483648) : Cr l E yX3_isBetter cX3_isBetter 3 (some FieldType.boolean) 0 0 [.ref hZ, .int (nI x), .int (nI y)] [(hZ, .inr (3, [.ref hE, .int (nI sd), .int (nI st)]))] (some (.int (bP (sd < x ∨ (sd = x ∧ y < st))))) := by
  refine ct_of (by decide +kernel) (Nat.le_of_ble_eq_true rfl) (fun ω C RT => ?_)
  show ω [(hZ, .inr (3, [.ref hE, .int (nI sd), .int (nI st)]))] [(0, .ref hZ), (1, .int (nI x)), (2, .int (nI y))] [] 0
  refine r_aload_n C (i := 0) 0 dX3_isBetter_0 rfl rfl ?_
  refine r_get C 0 1 uX3 rfl rfl (by decide) w_1_119 rfl dX3_isBetter_1 ?_
  refine r_iload_n C (i := 1) 1 dX3_isBetter_4 rfl rfl ?_
  refine r_icmp_lt C (c9 := sd < x) 24 dX3_isBetter_5 (by decide) (c_ltNN (by omega) (by omega)) (fun h5_1 => ?_) (fun h5_1 => ?_)
  · refine r_iconst C dX3_isBetter_24 ki_1 ?_
    refine r_goto C 29 dX3_isBetter_25 (by decide) ?_
    exact RT.1 _ _ _ _ _ dX3_isBetter_29 rfl nar_1 (rd_i (bP_t (by omega))) rfl
  · refine r_aload_n C (i := 0) 0 dX3_isBetter_8 rfl rfl ?_
    refine r_get C 0 1 uX3 rfl rfl (by decide) w_1_119 rfl dX3_isBetter_9 ?_
    refine r_iload_n C (i := 1) 1 dX3_isBetter_12 rfl rfl ?_
    refine r_icmp_ne C (c9 := sd ≠ x) 28 dX3_isBetter_13 (by decide) (c_neNN (by omega) (by omega)) (fun h13_2 => ?_) (fun h13_2 => ?_)
    · refine r_iconst C dX3_isBetter_28 ki_0 ?_
      exact RT.1 _ _ _ _ _ dX3_isBetter_29 rfl nar_0 (rd_i (bP_f (by omega))) rfl
    · refine r_aload_n C (i := 0) 0 dX3_isBetter_16 rfl rfl ?_
      refine r_get C 0 2 uX3 rfl rfl (by decide) w_1_120 rfl dX3_isBetter_17 ?_
      refine r_iload_n C (i := 2) 2 dX3_isBetter_20 rfl rfl ?_
      refine r_icmp_le C (c9 := st ≤ y) 28 dX3_isBetter_21 (by decide) (c_leNN (by omega) (by omega)) (fun h21_3 => ?_) (fun h21_3 => ?_)
      · refine r_iconst C dX3_isBetter_28 ki_0 ?_
        exact RT.1 _ _ _ _ _ dX3_isBetter_29 rfl nar_0 (rd_i (bP_f (by omega))) rfl
      · refine r_iconst C dX3_isBetter_24 ki_1 ?_
        refine r_goto C 29 dX3_isBetter_25 (by decide) ?_
        exact RT.1 _ _ _ _ _ dX3_isBetter_29 rfl nar_1 (rd_i (bP_t (by omega))) rfl
