set_option maxRecDepth 100000 in
set_option maxHeartbeats 4000000 in
theorem n_alike {l : Launch} {E : Ev} (hst : l.stackTraces = false) {α β : Nat → Nat} {K : Kt} {w v : va_W} (hA : Ark E α K w) (hQ : Ark E β K v) {x : Nat} (hx : x < 5000) : CtN l E yL_alike cL_alike 7 (some FieldType.boolean) none 10 219 160 [.ref (α 0), .ref (β 0), .int (nI x)] (w ++ (v ++ [])) (fun v9 w9 => ∃ w1 w2 : va_W, v9 = some (.int (nI 1)) ∧ w9 = w1 ++ (w2 ++ []) ∧ Ark E α K w1 ∧ Ark E β K w2) := by
  have hW := hA.W
  have hwP := hW.P
  have hwA := hW.A
  have hwS := hW.S
  refine ctn_of (by decide +kernel) (Nat.le_of_ble_eq_true rfl) (fun Ω hB => ?_)
  have C := hB.1 0 (by omega)
  have RT := hB.2.2.1 0 (by omega)
  show Ω 0 (w ++ (v ++ [])) [(0, .ref (α 0)), (1, .ref (β 0)), (2, .int (nI x))] [] 0
  refine r_aload_n C (i := 0) 0 dL_alike_0 rfl rfl ?_
  refine r_iconst C dL_alike_1 ki_2 ?_
  refine r_iconst C dL_alike_2 ki_0 ?_
  refine r_iconst C dL_alike_3 ki_0 ?_
  refine r_iconst C dL_alike_4 ki_0 ?_
  refine Ca.at hB.2.2.2 hB.2.1 (j := 0) (K := 0) (rest := []) (pre := []) (suf := v ++ []) (by omega) (cl_about_0 hst hA  ).l lk_L_call w_2_41 dL_alike_5 rfl ⟨by decide, by decide⟩ (Nat.le_of_ble_eq_true rfl) ?_
  rintro _ w1 ⟨rfl, hA2⟩
  show Ω 0 (w1 ++ (v ++ [])) [(0, .ref (α 0)), (1, .ref (β 0)), (2, .int (nI x))] [.int (nI (sP K.1))] 8
  refine r_istore_n C (lv' := [(3, .int (nI (sP K.1))), (0, .ref (α 0)), (1, .ref (β 0)), (2, .int (nI x))]) dL_alike_8 rfl (by decide) rfl ?_
  refine r_aload_n C (i := 0) 1 dL_alike_9 rfl rfl ?_
  refine r_iload_n C (i := 2) 3 dL_alike_10 rfl rfl ?_
  refine r_i2l (v := lN x) C dL_alike_11 (v_i2l (by omega)) ?_
  refine r_iconst C dL_alike_12 ki_1 ?_
  refine r_iload_n C (i := 2) 3 dL_alike_13 rfl rfl ?_
  refine r_bipush C dL_alike_14 kb_30 ?_
  refine r_irem (v := nI (x % 30)) C dL_alike_16 (v_nz (by omega) (by omega)) (v_rem (by omega) (by omega) (by omega)) ?_
  refine r_iadd (v := nI (1 + (x % 30))) C dL_alike_17 (nI_add _ _) ?_
  refine Ca.at hB.2.2.2 hB.2.1 (j := 0) (K := 0) (rest := []) (pre := []) (suf := v ++ []) (by omega) (t_simulate hst hA2 (m := 1 + (x % 30)) (z := (lN x)) (hm := (by omega))).l lk_L_doSimulate w_5_38 dL_alike_18 rfl ⟨by decide, by decide⟩ (Nat.le_of_ble_eq_true rfl) ?_
  rintro _ w3 ⟨rfl, hA4⟩
  show Ω 0 (w3 ++ (v ++ [])) [(3, .int (nI (sP K.1))), (0, .ref (α 0)), (1, .ref (β 0)), (2, .int (nI x))] [.int (nI (100000 * dkS (siS K.1 (lN x) (1 + (x % 30))) 20 + tkS (siS K.1 (lN x) (1 + (x % 30))) 20))] 21
  refine r_aload_n C (i := 1) 2 dL_alike_21 rfl rfl ?_
  refine r_iload_n C (i := 2) 3 dL_alike_22 rfl rfl ?_
  refine r_i2l (v := lN x) C dL_alike_23 (v_i2l (by omega)) ?_
  refine r_iconst C dL_alike_24 ki_1 ?_
  refine r_iload_n C (i := 2) 3 dL_alike_25 rfl rfl ?_
  refine r_bipush C dL_alike_26 kb_30 ?_
  refine r_irem (v := nI (x % 30)) C dL_alike_28 (v_nz (by omega) (by omega)) (v_rem (by omega) (by omega) (by omega)) ?_
  refine r_iadd (v := nI (1 + (x % 30))) C dL_alike_29 (nI_add _ _) ?_
  refine Ca.at hB.2.2.2 hB.2.1 (j := 0) (K := 0) (rest := [.int (nI (100000 * dkS (siS K.1 (lN x) (1 + (x % 30))) 20 + tkS (siS K.1 (lN x) (1 + (x % 30))) 20))]) (pre := w3) (suf := []) (by omega) (t_simulate hst hQ (m := 1 + (x % 30)) (z := (lN x)) (hm := (by omega))).l lk_L_doSimulate w_5_38 dL_alike_30 rfl ⟨by decide, by decide⟩ (Nat.le_of_ble_eq_true rfl) ?_
  rintro _ w5 ⟨rfl, hA6⟩
  show Ω 0 (w3 ++ (w5 ++ [])) [(3, .int (nI (sP K.1))), (0, .ref (α 0)), (1, .ref (β 0)), (2, .int (nI x))] [.int (nI (100000 * dkS (siS K.1 (lN x) (1 + (x % 30))) 20 + tkS (siS K.1 (lN x) (1 + (x % 30))) 20)), .int (nI (100000 * dkS (siS K.1 (lN x) (1 + (x % 30))) 20 + tkS (siS K.1 (lN x) (1 + (x % 30))) 20))] 33
  refine r_icmp_neF C (tgt := 51) dL_alike_33 (by decide) (fun z => ((fun z => z rfl) : ¬ ((nI (100000 * dkS (siS K.1 (lN x) (1 + (x % 30))) 20 + tkS (siS K.1 (lN x) (1 + (x % 30))) 20) : Int32) ≠ nI (100000 * dkS (siS K.1 (lN x) (1 + (x % 30))) 20 + tkS (siS K.1 (lN x) (1 + (x % 30))) 20))) (Iff.rfl.mp z)) ?_
  refine r_aload_n C (i := 0) 1 dL_alike_36 rfl rfl ?_
  refine r_needed (rest := []) (pre := []) (suf := w5 ++ []) C hA4 w_5_65 dL_alike_37 ⟨by decide, by decide⟩ (Nat.le_of_ble_eq_true rfl) (fun w7 hA8 => ?_)
  show Ω 0 (w7 ++ (w5 ++ [])) [(3, .int (nI (sP K.1))), (0, .ref (α 0)), (1, .ref (β 0)), (2, .int (nI x))] [.int (mI ((nd K.1 (sA K.1)).1))] 40
  refine r_aload_n C (i := 1) 2 dL_alike_40 rfl rfl ?_
  refine r_needed (rest := [.int (mI ((nd K.1 (sA K.1)).1))]) (pre := w7) (suf := []) C hA6 w_5_65 dL_alike_41 ⟨by decide, by decide⟩ (Nat.le_of_ble_eq_true rfl) (fun w9 hA10 => ?_)
  show Ω 0 (w7 ++ (w9 ++ [])) [(3, .int (nI (sP K.1))), (0, .ref (α 0)), (1, .ref (β 0)), (2, .int (nI x))] [.int (mI ((nd K.1 (sA K.1)).1)), .int (mI ((nd K.1 (sA K.1)).1))] 44
  refine r_icmp_neF C (tgt := 51) dL_alike_44 (by decide) (fun z => ((fun z => z rfl) : ¬ ((mI ((nd K.1 (sA K.1)).1) : Int32) ≠ mI ((nd K.1 (sA K.1)).1))) (Iff.rfl.mp z)) ?_
  refine r_iconst C dL_alike_47 ki_1 ?_
  refine r_goto C 52 dL_alike_48 (by decide) ?_
  refine r_istore C (lv' := [(4, .int (nI 1)), (3, .int (nI (sP K.1))), (0, .ref (α 0)), (1, .ref (β 0)), (2, .int (nI x))]) dL_alike_52 (by decide) rfl ?_
  refine r_iconst C dL_alike_54 ki_0 ?_
  refine r_istore C (lv' := [(5, .int (nI 0)), (4, .int (nI 1)), (3, .int (nI (sP K.1))), (0, .ref (α 0)), (1, .ref (β 0)), (2, .int (nI x))]) dL_alike_55 (by decide) rfl ?_
  have loop57_12 : ∀ (dd9 : Nat) (k : Nat) (jj : Nat) (wL110 : va_W) (wL111 : va_W), 20 - k < dd9 → (k ≤ 20) → (jj ≤ 8 * k) → (Ark E α K wL110) → (Ark E β K wL111) → Ω jj (wL110 ++ (wL111 ++ [])) [(5, .int (nI k)), (4, .int (nI 1)), (3, .int (nI (sP K.1))), (0, .ref (α 0)), (1, .ref (β 0)), (2, .int (nI x))] [] 57 := by
    intro dd9
    induction dd9 with
    | zero => intro k jj wL110 wL111 hd; exact absurd hd (Nat.not_lt_zero _)
    | succ dd9 ih13 =>
      intro k jj wL110 wL111 hd hk hjj hAL110 hAL111
      have C := hB.1 (jj) (by omega)
      have RT := hB.2.2.1 (jj) (by omega)
      refine r_iload C (i := 5) 0 dL_alike_57 rfl ?_
      refine r_bipush C dL_alike_59 kb_20 ?_
      refine r_icmp_ge C (c9 := 20 ≤ k) 295 dL_alike_61 (by decide) (c_leNN (by omega) (by omega)) (fun h61_14 => ?_) (fun h61_14 => ?_)
      · refine r_iload C (i := 4) 1 dL_alike_295 rfl ?_
        exact RT.1 _ _ _ _ _ dL_alike_297 rfl nar_1 (⟨_, _, rfl, rfl, hAL110, hAL111⟩) (fst2 hAL110 hA hAL111 hQ)
      · have hk2 : k < 20 := by omega
        refine r_iload C (i := 4) 1 dL_alike_64 rfl ?_
        refine r_if_eqF C (y := 0) (tgt := 295) dL_alike_66 (by decide) (fun z => ((by decide) : ¬ (1 = 0)) ((z_eqN (by omega)).mp z)) ?_
        refine r_aload_n C (i := 0) 3 dL_alike_69 rfl rfl ?_
        refine r_iconst C dL_alike_70 ki_2 ?_
        refine r_iload C (i := 5) 0 dL_alike_71 rfl ?_
        refine r_iconst C dL_alike_73 ki_0 ?_
        refine r_iconst C dL_alike_74 ki_0 ?_
        refine Ca.at hB.2.2.2 hB.2.1 (j := jj) (K := 1) (rest := []) (pre := []) (suf := wL111 ++ []) (by omega) (ct_about hst hAL110 (k := k) (hk := (by omega))) lk_L_call w_2_41 dL_alike_75 rfl ⟨by decide, by decide⟩ (Nat.le_of_ble_eq_true rfl) ?_
        rintro _ w15 ⟨rfl, hA16⟩
        have C := hB.1 (jj + 1) (by omega)
        have RT := hB.2.2.1 (jj + 1) (by omega)
        show Ω (jj + 1) (w15 ++ (wL111 ++ [])) [(5, .int (nI k)), (4, .int (nI 1)), (3, .int (nI (sP K.1))), (0, .ref (α 0)), (1, .ref (β 0)), (2, .int (nI x))] [.int (aboutR K.1 k)] 78
        refine r_aload_n C (i := 1) 4 dL_alike_78 rfl rfl ?_
        refine r_iconst C dL_alike_79 ki_2 ?_
        refine r_iload C (i := 5) 0 dL_alike_80 rfl ?_
        refine r_iconst C dL_alike_82 ki_0 ?_
        refine r_iconst C dL_alike_83 ki_0 ?_
        refine Ca.at hB.2.2.2 hB.2.1 (j := jj + 1) (K := 1) (rest := [.int (aboutR K.1 k)]) (pre := w15) (suf := []) (by omega) (ct_about hst hAL111 (k := k) (hk := (by omega))) lk_L_call w_2_41 dL_alike_84 rfl ⟨by decide, by decide⟩ (Nat.le_of_ble_eq_true rfl) ?_
        rintro _ w17 ⟨rfl, hA18⟩
        have C := hB.1 (jj + 1 + 1) (by omega)
        have RT := hB.2.2.1 (jj + 1 + 1) (by omega)
        show Ω (jj + 1 + 1) (w15 ++ (w17 ++ [])) [(5, .int (nI k)), (4, .int (nI 1)), (3, .int (nI (sP K.1))), (0, .ref (α 0)), (1, .ref (β 0)), (2, .int (nI x))] [.int (aboutR K.1 k), .int (aboutR K.1 k)] 87
        refine r_icmp_neF C (tgt := 188) dL_alike_87 (by decide) (fun z => ((fun z => z rfl) : ¬ (((aboutR K.1 k) : Int32) ≠ (aboutR K.1 k))) (Iff.rfl.mp z)) ?_
        refine r_aload_n C (i := 0) 3 dL_alike_90 rfl rfl ?_
        refine r_bipush C dL_alike_91 kb_9 ?_
        refine r_iload C (i := 5) 0 dL_alike_93 rfl ?_
        refine r_iconst C dL_alike_95 ki_0 ?_
        refine r_iconst C dL_alike_96 ki_0 ?_
        refine Ca.at hB.2.2.2 hB.2.1 (j := jj + 1 + 1) (K := 1) (rest := []) (pre := []) (suf := w17 ++ []) (by omega) (ct_setting hst hA16 (k := k) (hk := (by omega))) lk_L_call w_2_41 dL_alike_97 rfl ⟨by decide, by decide⟩ (Nat.le_of_ble_eq_true rfl) ?_
        rintro _ w19 ⟨rfl, hA20⟩
        have C := hB.1 (jj + 1 + 1 + 1) (by omega)
        have RT := hB.2.2.1 (jj + 1 + 1 + 1) (by omega)
        show Ω (jj + 1 + 1 + 1) (w19 ++ (w17 ++ [])) [(5, .int (nI k)), (4, .int (nI 1)), (3, .int (nI (sP K.1))), (0, .ref (α 0)), (1, .ref (β 0)), (2, .int (nI x))] [.int (settingR K.1 k)] 100
        refine r_aload_n C (i := 1) 4 dL_alike_100 rfl rfl ?_
        refine r_bipush C dL_alike_101 kb_9 ?_
        refine r_iload C (i := 5) 0 dL_alike_103 rfl ?_
        refine r_iconst C dL_alike_105 ki_0 ?_
        refine r_iconst C dL_alike_106 ki_0 ?_
        refine Ca.at hB.2.2.2 hB.2.1 (j := jj + 1 + 1 + 1) (K := 1) (rest := [.int (settingR K.1 k)]) (pre := w19) (suf := []) (by omega) (ct_setting hst hA18 (k := k) (hk := (by omega))) lk_L_call w_2_41 dL_alike_107 rfl ⟨by decide, by decide⟩ (Nat.le_of_ble_eq_true rfl) ?_
        rintro _ w21 ⟨rfl, hA22⟩
        have C := hB.1 (jj + 1 + 1 + 1 + 1) (by omega)
        have RT := hB.2.2.1 (jj + 1 + 1 + 1 + 1) (by omega)
        show Ω (jj + 1 + 1 + 1 + 1) (w19 ++ (w21 ++ [])) [(5, .int (nI k)), (4, .int (nI 1)), (3, .int (nI (sP K.1))), (0, .ref (α 0)), (1, .ref (β 0)), (2, .int (nI x))] [.int (settingR K.1 k), .int (settingR K.1 k)] 110
        refine r_icmp_neF C (tgt := 188) dL_alike_110 (by decide) (fun z => ((fun z => z rfl) : ¬ (((settingR K.1 k) : Int32) ≠ (settingR K.1 k))) (Iff.rfl.mp z)) ?_
        refine r_aload_n C (i := 0) 3 dL_alike_113 rfl rfl ?_
        refine r_bipush C dL_alike_114 kb_8 ?_
        refine r_iload C (i := 5) 0 dL_alike_116 rfl ?_
        refine r_iconst C dL_alike_118 ki_2 ?_
        refine r_iconst C dL_alike_119 ki_0 ?_
        refine Ca.at hB.2.2.2 hB.2.1 (j := jj + 1 + 1 + 1 + 1) (K := 1) (rest := []) (pre := []) (suf := w21 ++ []) (by omega) (ct_found hst hA20 (k := k) (x := 2) (hk := (by omega)) (hx := (by omega))) lk_L_call w_2_41 dL_alike_120 rfl ⟨by decide, by decide⟩ (Nat.le_of_ble_eq_true rfl) ?_
        rintro _ w23 ⟨rfl, hA24⟩
        have C := hB.1 (jj + 1 + 1 + 1 + 1 + 1) (by omega)
        have RT := hB.2.2.1 (jj + 1 + 1 + 1 + 1 + 1) (by omega)
        show Ω (jj + 1 + 1 + 1 + 1 + 1) (w23 ++ (w21 ++ [])) [(5, .int (nI k)), (4, .int (nI 1)), (3, .int (nI (sP K.1))), (0, .ref (α 0)), (1, .ref (β 0)), (2, .int (nI x))] [.int (foundR K.1 k 2)] 123
        refine r_aload_n C (i := 1) 4 dL_alike_123 rfl rfl ?_
        refine r_bipush C dL_alike_124 kb_8 ?_
        refine r_iload C (i := 5) 0 dL_alike_126 rfl ?_
        refine r_iconst C dL_alike_128 ki_2 ?_
        refine r_iconst C dL_alike_129 ki_0 ?_
        refine Ca.at hB.2.2.2 hB.2.1 (j := jj + 1 + 1 + 1 + 1 + 1) (K := 1) (rest := [.int (foundR K.1 k 2)]) (pre := w23) (suf := []) (by omega) (ct_found hst hA22 (k := k) (x := 2) (hk := (by omega)) (hx := (by omega))) lk_L_call w_2_41 dL_alike_130 rfl ⟨by decide, by decide⟩ (Nat.le_of_ble_eq_true rfl) ?_
        rintro _ w25 ⟨rfl, hA26⟩
        have C := hB.1 (jj + 1 + 1 + 1 + 1 + 1 + 1) (by omega)
        have RT := hB.2.2.1 (jj + 1 + 1 + 1 + 1 + 1 + 1) (by omega)
        show Ω (jj + 1 + 1 + 1 + 1 + 1 + 1) (w23 ++ (w25 ++ [])) [(5, .int (nI k)), (4, .int (nI 1)), (3, .int (nI (sP K.1))), (0, .ref (α 0)), (1, .ref (β 0)), (2, .int (nI x))] [.int (foundR K.1 k 2), .int (foundR K.1 k 2)] 133
        refine r_icmp_neF C (tgt := 188) dL_alike_133 (by decide) (fun z => ((fun z => z rfl) : ¬ (((foundR K.1 k 2) : Int32) ≠ (foundR K.1 k 2))) (Iff.rfl.mp z)) ?_
        refine r_aload_n C (i := 0) 3 dL_alike_136 rfl rfl ?_
        refine r_bipush C dL_alike_137 kb_8 ?_
        refine r_iload C (i := 5) 0 dL_alike_139 rfl ?_
        refine r_iload_n C (i := 2) 5 dL_alike_141 rfl rfl ?_
        refine r_iconst C dL_alike_142 ki_5 ?_
        refine r_irem (v := nI (x % 5)) C dL_alike_143 (v_nz (by omega) (by omega)) (v_rem (by omega) (by omega) (by omega)) ?_
        refine r_iconst C dL_alike_144 ki_0 ?_
        refine Ca.at hB.2.2.2 hB.2.1 (j := jj + 1 + 1 + 1 + 1 + 1 + 1) (K := 1) (rest := []) (pre := []) (suf := w25 ++ []) (by omega) (ct_found hst hA24 (k := k) (x := x % 5) (hk := (by omega)) (hx := (by omega))) lk_L_call w_2_41 dL_alike_145 rfl ⟨by decide, by decide⟩ (Nat.le_of_ble_eq_true rfl) ?_
        rintro _ w27 ⟨rfl, hA28⟩
        have C := hB.1 (jj + 1 + 1 + 1 + 1 + 1 + 1 + 1) (by omega)
        have RT := hB.2.2.1 (jj + 1 + 1 + 1 + 1 + 1 + 1 + 1) (by omega)
        show Ω (jj + 1 + 1 + 1 + 1 + 1 + 1 + 1) (w27 ++ (w25 ++ [])) [(5, .int (nI k)), (4, .int (nI 1)), (3, .int (nI (sP K.1))), (0, .ref (α 0)), (1, .ref (β 0)), (2, .int (nI x))] [.int (foundR K.1 k (x % 5))] 148
        refine r_aload_n C (i := 1) 4 dL_alike_148 rfl rfl ?_
        refine r_bipush C dL_alike_149 kb_8 ?_
        refine r_iload C (i := 5) 0 dL_alike_151 rfl ?_
        refine r_iload_n C (i := 2) 5 dL_alike_153 rfl rfl ?_
        refine r_iconst C dL_alike_154 ki_5 ?_
        refine r_irem (v := nI (x % 5)) C dL_alike_155 (v_nz (by omega) (by omega)) (v_rem (by omega) (by omega) (by omega)) ?_
        refine r_iconst C dL_alike_156 ki_0 ?_
        refine Ca.at hB.2.2.2 hB.2.1 (j := jj + 1 + 1 + 1 + 1 + 1 + 1 + 1) (K := 1) (rest := [.int (foundR K.1 k (x % 5))]) (pre := w27) (suf := []) (by omega) (ct_found hst hA26 (k := k) (x := x % 5) (hk := (by omega)) (hx := (by omega))) lk_L_call w_2_41 dL_alike_157 rfl ⟨by decide, by decide⟩ (Nat.le_of_ble_eq_true rfl) ?_
        rintro _ w29 ⟨rfl, hA30⟩
        have C := hB.1 (jj + 1 + 1 + 1 + 1 + 1 + 1 + 1 + 1) (by omega)
        have RT := hB.2.2.1 (jj + 1 + 1 + 1 + 1 + 1 + 1 + 1 + 1) (by omega)
        show Ω (jj + 1 + 1 + 1 + 1 + 1 + 1 + 1 + 1) (w27 ++ (w29 ++ [])) [(5, .int (nI k)), (4, .int (nI 1)), (3, .int (nI (sP K.1))), (0, .ref (α 0)), (1, .ref (β 0)), (2, .int (nI x))] [.int (foundR K.1 k (x % 5)), .int (foundR K.1 k (x % 5))] 160
        refine r_icmp_neF C (tgt := 188) dL_alike_160 (by decide) (fun z => ((fun z => z rfl) : ¬ (((foundR K.1 k (x % 5)) : Int32) ≠ (foundR K.1 k (x % 5)))) (Iff.rfl.mp z)) ?_
        refine r_aload_n C (i := 0) 3 dL_alike_163 rfl rfl ?_
        refine r_iconst C dL_alike_164 ki_5 ?_
        refine r_iload C (i := 5) 0 dL_alike_165 rfl ?_
        refine r_iconst C dL_alike_167 ki_2 ?_
        refine r_iconst C dL_alike_168 ki_0 ?_
        refine Ca.at hB.2.2.2 hB.2.1 (j := jj + 1 + 1 + 1 + 1 + 1 + 1 + 1 + 1) (K := 0) (rest := []) (pre := []) (suf := w29 ++ []) (by omega) (cl_night_2 hst hA28 (n := k) (hn := (by omega))).l lk_L_call w_2_41 dL_alike_169 rfl ⟨by decide, by decide⟩ (Nat.le_of_ble_eq_true rfl) ?_
        rintro _ w31 ⟨rfl, hA32⟩
        show Ω (jj + 1 + 1 + 1 + 1 + 1 + 1 + 1 + 1) (w31 ++ (w29 ++ [])) [(5, .int (nI k)), (4, .int (nI 1)), (3, .int (nI (sP K.1))), (0, .ref (α 0)), (1, .ref (β 0)), (2, .int (nI x))] [.int (nI (bm (fun a => sI K.1 a k) 10))] 172
        refine r_aload_n C (i := 1) 4 dL_alike_172 rfl rfl ?_
        refine r_iconst C dL_alike_173 ki_5 ?_
        refine r_iload C (i := 5) 0 dL_alike_174 rfl ?_
        refine r_iconst C dL_alike_176 ki_2 ?_
        refine r_iconst C dL_alike_177 ki_0 ?_
        refine Ca.at hB.2.2.2 hB.2.1 (j := jj + 1 + 1 + 1 + 1 + 1 + 1 + 1 + 1) (K := 0) (rest := [.int (nI (bm (fun a => sI K.1 a k) 10))]) (pre := w31) (suf := []) (by omega) (cl_night_2 hst hA30 (n := k) (hn := (by omega))).l lk_L_call w_2_41 dL_alike_178 rfl ⟨by decide, by decide⟩ (Nat.le_of_ble_eq_true rfl) ?_
        rintro _ w33 ⟨rfl, hA34⟩
        show Ω (jj + 1 + 1 + 1 + 1 + 1 + 1 + 1 + 1) (w31 ++ (w33 ++ [])) [(5, .int (nI k)), (4, .int (nI 1)), (3, .int (nI (sP K.1))), (0, .ref (α 0)), (1, .ref (β 0)), (2, .int (nI x))] [.int (nI (bm (fun a => sI K.1 a k) 10)), .int (nI (bm (fun a => sI K.1 a k) 10))] 181
        refine r_icmp_neF C (tgt := 188) dL_alike_181 (by decide) (fun z => ((fun z => z rfl) : ¬ ((nI (bm (fun a => sI K.1 a k) 10) : Int32) ≠ nI (bm (fun a => sI K.1 a k) 10))) (Iff.rfl.mp z)) ?_
        refine r_iconst C dL_alike_184 ki_1 ?_
        refine r_goto C 189 dL_alike_185 (by decide) ?_
        refine r_istore C (lv' := [(4, .int (nI 1)), (5, .int (nI k)), (3, .int (nI (sP K.1))), (0, .ref (α 0)), (1, .ref (β 0)), (2, .int (nI x))]) dL_alike_189 (by decide) rfl ?_
        refine r_iconst C dL_alike_191 ki_0 ?_
        refine r_istore C (lv' := [(6, .int (nI 0)), (4, .int (nI 1)), (5, .int (nI k)), (3, .int (nI (sP K.1))), (0, .ref (α 0)), (1, .ref (β 0)), (2, .int (nI x))]) dL_alike_192 (by decide) rfl ?_
        have loop194_36 : ∀ (dd9 : Nat) (p : Nat) (wL350 : va_W) (wL351 : va_W), sP K.1 - p < dd9 → (p ≤ sP K.1) → (Ark E α K wL350) → (Ark E β K wL351) → Ω (jj + 1 + 1 + 1 + 1 + 1 + 1 + 1 + 1) (wL350 ++ (wL351 ++ [])) [(6, .int (nI p)), (4, .int (nI 1)), (5, .int (nI k)), (3, .int (nI (sP K.1))), (0, .ref (α 0)), (1, .ref (β 0)), (2, .int (nI x))] [] 194 := by
          intro dd9
          induction dd9 with
          | zero => intro p wL350 wL351 hd; exact absurd hd (Nat.not_lt_zero _)
          | succ dd9 ih37 =>
            intro p wL350 wL351 hd hp9 hAL350 hAL351
            refine r_iload C (i := 6) 0 dL_alike_194 rfl ?_
            refine r_iload_n C (i := 3) 3 dL_alike_196 rfl rfl ?_
            refine r_icmp_ge C (c9 := sP K.1 ≤ p) 289 dL_alike_197 (by decide) (c_leNN (by omega) (by omega)) (fun h197_38 => ?_) (fun h197_38 => ?_)
            · refine r_iinc C (lv' := [(5, .int (nI (k + 1))), (6, .int (nI p)), (4, .int (nI 1)), (3, .int (nI (sP K.1))), (0, .ref (α 0)), (1, .ref (β 0)), (2, .int (nI x))]) (v := nI (k + 1)) 2 dL_alike_289 rfl (v_inc _) (by decide) rfl ?_
              refine r_goto C 57 dL_alike_292 (by decide) ?_
              refine r_lv (lv' := [(5, .int (nI (k + 1))), (4, .int (nI 1)), (3, .int (nI (sP K.1))), (0, .ref (α 0)), (1, .ref (β 0)), (2, .int (nI x))]) C [0, 2, 3, 4, 5, 6] rfl ?_
              exact ih13 (k + 1) (jj + 1 + 1 + 1 + 1 + 1 + 1 + 1 + 1) wL350 wL351 (by omega) (by omega) (by omega) hAL350 hAL351
            · have hp2 : p < sP K.1 := by omega
              refine r_iload C (i := 4) 1 dL_alike_200 rfl ?_
              refine r_if_eqF C (y := 0) (tgt := 289) dL_alike_202 (by decide) (fun z => ((by decide) : ¬ (1 = 0)) ((z_eqN (by omega)).mp z)) ?_
              refine r_aload_n C (i := 0) 4 dL_alike_205 rfl rfl ?_
              refine r_iconst C dL_alike_206 ki_4 ?_
              refine r_iload C (i := 5) 2 dL_alike_207 rfl ?_
              refine r_iload C (i := 6) 0 dL_alike_209 rfl ?_
              refine r_iconst C dL_alike_211 ki_0 ?_
              refine Ca.at hB.2.2.2 hB.2.1 (j := jj + 1 + 1 + 1 + 1 + 1 + 1 + 1 + 1) (K := 0) (rest := []) (pre := []) (suf := wL351 ++ []) (by omega) (cl_bill_0 hst hAL350 (n := k) (p := p) (hn := (by omega)) (hp := (by omega))).l lk_L_call w_2_41 dL_alike_212 rfl ⟨by decide, by decide⟩ (Nat.le_of_ble_eq_true rfl) ?_
              rintro _ w39 ⟨rfl, hA40⟩
              show Ω (jj + 1 + 1 + 1 + 1 + 1 + 1 + 1 + 1) (w39 ++ (wL351 ++ [])) [(6, .int (nI p)), (4, .int (nI 1)), (5, .int (nI k)), (3, .int (nI (sP K.1))), (0, .ref (α 0)), (1, .ref (β 0)), (2, .int (nI x))] [.int (mI (sR K.1 p k))] 215
              refine r_aload_n C (i := 1) 5 dL_alike_215 rfl rfl ?_
              refine r_iconst C dL_alike_216 ki_4 ?_
              refine r_iload C (i := 5) 2 dL_alike_217 rfl ?_
              refine r_iload C (i := 6) 0 dL_alike_219 rfl ?_
              refine r_iconst C dL_alike_221 ki_0 ?_
              refine Ca.at hB.2.2.2 hB.2.1 (j := jj + 1 + 1 + 1 + 1 + 1 + 1 + 1 + 1) (K := 0) (rest := [.int (mI (sR K.1 p k))]) (pre := w39) (suf := []) (by omega) (cl_bill_0 hst hAL351 (n := k) (p := p) (hn := (by omega)) (hp := (by omega))).l lk_L_call w_2_41 dL_alike_222 rfl ⟨by decide, by decide⟩ (Nat.le_of_ble_eq_true rfl) ?_
              rintro _ w41 ⟨rfl, hA42⟩
              show Ω (jj + 1 + 1 + 1 + 1 + 1 + 1 + 1 + 1) (w39 ++ (w41 ++ [])) [(6, .int (nI p)), (4, .int (nI 1)), (5, .int (nI k)), (3, .int (nI (sP K.1))), (0, .ref (α 0)), (1, .ref (β 0)), (2, .int (nI x))] [.int (mI (sR K.1 p k)), .int (mI (sR K.1 p k))] 225
              refine r_icmp_neF C (tgt := 280) dL_alike_225 (by decide) (fun z => ((fun z => z rfl) : ¬ ((mI (sR K.1 p k) : Int32) ≠ mI (sR K.1 p k))) (Iff.rfl.mp z)) ?_
              refine r_aload_n C (i := 0) 4 dL_alike_228 rfl rfl ?_
              refine r_iconst C dL_alike_229 ki_4 ?_
              refine r_iload C (i := 5) 2 dL_alike_230 rfl ?_
              refine r_iload C (i := 6) 0 dL_alike_232 rfl ?_
              refine r_iconst C dL_alike_234 ki_1 ?_
              refine Ca.at hB.2.2.2 hB.2.1 (j := jj + 1 + 1 + 1 + 1 + 1 + 1 + 1 + 1) (K := 0) (rest := []) (pre := []) (suf := w41 ++ []) (by omega) (cl_bill_1 hst hA40 (n := k) (p := p) (hn := (by omega)) (hp := (by omega))).l lk_L_call w_2_41 dL_alike_235 rfl ⟨by decide, by decide⟩ (Nat.le_of_ble_eq_true rfl) ?_
              rintro _ w43 ⟨rfl, hA44⟩
              show Ω (jj + 1 + 1 + 1 + 1 + 1 + 1 + 1 + 1) (w43 ++ (w41 ++ [])) [(6, .int (nI p)), (4, .int (nI 1)), (5, .int (nI k)), (3, .int (nI (sP K.1))), (0, .ref (α 0)), (1, .ref (β 0)), (2, .int (nI x))] [.int (mI (T K.1 k p))] 238
              refine r_aload_n C (i := 1) 5 dL_alike_238 rfl rfl ?_
              refine r_iconst C dL_alike_239 ki_4 ?_
              refine r_iload C (i := 5) 2 dL_alike_240 rfl ?_
              refine r_iload C (i := 6) 0 dL_alike_242 rfl ?_
              refine r_iconst C dL_alike_244 ki_1 ?_
              refine Ca.at hB.2.2.2 hB.2.1 (j := jj + 1 + 1 + 1 + 1 + 1 + 1 + 1 + 1) (K := 0) (rest := [.int (mI (T K.1 k p))]) (pre := w43) (suf := []) (by omega) (cl_bill_1 hst hA42 (n := k) (p := p) (hn := (by omega)) (hp := (by omega))).l lk_L_call w_2_41 dL_alike_245 rfl ⟨by decide, by decide⟩ (Nat.le_of_ble_eq_true rfl) ?_
              rintro _ w45 ⟨rfl, hA46⟩
              show Ω (jj + 1 + 1 + 1 + 1 + 1 + 1 + 1 + 1) (w43 ++ (w45 ++ [])) [(6, .int (nI p)), (4, .int (nI 1)), (5, .int (nI k)), (3, .int (nI (sP K.1))), (0, .ref (α 0)), (1, .ref (β 0)), (2, .int (nI x))] [.int (mI (T K.1 k p)), .int (mI (T K.1 k p))] 248
              refine r_icmp_neF C (tgt := 280) dL_alike_248 (by decide) (fun z => ((fun z => z rfl) : ¬ ((mI (T K.1 k p) : Int32) ≠ mI (T K.1 k p))) (Iff.rfl.mp z)) ?_
              refine r_aload_n C (i := 0) 4 dL_alike_251 rfl rfl ?_
              refine r_bipush C dL_alike_252 kb_7 ?_
              refine r_iload C (i := 6) 0 dL_alike_254 rfl ?_
              refine r_iload C (i := 5) 2 dL_alike_256 rfl ?_
              refine r_iconst C dL_alike_258 ki_0 ?_
              refine Ca.at hB.2.2.2 hB.2.1 (j := jj + 1 + 1 + 1 + 1 + 1 + 1 + 1 + 1) (K := 0) (rest := []) (pre := []) (suf := w45 ++ []) (by omega) (cl_ranked hst hA44 (k := k) (p := p) (hp := (by omega)) (hk := (by omega))).l lk_L_call w_2_41 dL_alike_259 rfl ⟨by decide, by decide⟩ (Nat.le_of_ble_eq_true rfl) ?_
              rintro _ w47 ⟨rfl, hA48⟩
              show Ω (jj + 1 + 1 + 1 + 1 + 1 + 1 + 1 + 1) (w47 ++ (w45 ++ [])) [(6, .int (nI p)), (4, .int (nI 1)), (5, .int (nI k)), (3, .int (nI (sP K.1))), (0, .ref (α 0)), (1, .ref (β 0)), (2, .int (nI x))] [.int (mI (sUm K.1 p k))] 262
              refine r_aload_n C (i := 1) 5 dL_alike_262 rfl rfl ?_
              refine r_bipush C dL_alike_263 kb_7 ?_
              refine r_iload C (i := 6) 0 dL_alike_265 rfl ?_
              refine r_iload C (i := 5) 2 dL_alike_267 rfl ?_
              refine r_iconst C dL_alike_269 ki_0 ?_
              refine Ca.at hB.2.2.2 hB.2.1 (j := jj + 1 + 1 + 1 + 1 + 1 + 1 + 1 + 1) (K := 0) (rest := [.int (mI (sUm K.1 p k))]) (pre := w47) (suf := []) (by omega) (cl_ranked hst hA46 (k := k) (p := p) (hp := (by omega)) (hk := (by omega))).l lk_L_call w_2_41 dL_alike_270 rfl ⟨by decide, by decide⟩ (Nat.le_of_ble_eq_true rfl) ?_
              rintro _ w49 ⟨rfl, hA50⟩
              show Ω (jj + 1 + 1 + 1 + 1 + 1 + 1 + 1 + 1) (w47 ++ (w49 ++ [])) [(6, .int (nI p)), (4, .int (nI 1)), (5, .int (nI k)), (3, .int (nI (sP K.1))), (0, .ref (α 0)), (1, .ref (β 0)), (2, .int (nI x))] [.int (mI (sUm K.1 p k)), .int (mI (sUm K.1 p k))] 273
              refine r_icmp_neF C (tgt := 280) dL_alike_273 (by decide) (fun z => ((fun z => z rfl) : ¬ ((mI (sUm K.1 p k) : Int32) ≠ mI (sUm K.1 p k))) (Iff.rfl.mp z)) ?_
              refine r_iconst C dL_alike_276 ki_1 ?_
              refine r_goto C 281 dL_alike_277 (by decide) ?_
              refine r_istore C (lv' := [(4, .int (nI 1)), (6, .int (nI p)), (5, .int (nI k)), (3, .int (nI (sP K.1))), (0, .ref (α 0)), (1, .ref (β 0)), (2, .int (nI x))]) dL_alike_281 (by decide) rfl ?_
              refine r_iinc C (lv' := [(6, .int (nI (p + 1))), (4, .int (nI 1)), (5, .int (nI k)), (3, .int (nI (sP K.1))), (0, .ref (α 0)), (1, .ref (β 0)), (2, .int (nI x))]) (v := nI (p + 1)) 1 dL_alike_283 rfl (v_inc _) (by decide) rfl ?_
              refine r_goto C 194 dL_alike_286 (by decide) ?_
              exact ih37 (p + 1) w47 w49 (by omega) (by omega) hA48 hA50
        exact loop194_36 _ 0 w31 w33 (Nat.lt_succ_self _) (by omega) hA32 hA34
  exact loop57_12 _ 0 0 w7 w9 (Nat.lt_succ_self _) (by omega) (by omega) hA8 hA10
theorem thr_N {k : Nat} (hk : k < 2147483648) : ¬ thr (nI k) := by
  intro z
  have h1 : (nI k).toInt = (k : Int) := nI_toInt hk
  rcases z with z | z | z
  · rw [z] at h1; have : (-9999001 : Int32).toInt = -9999001 := by decide
    omega
  · rw [z] at h1; have : (-9999002 : Int32).toInt = -9999002 := by decide
    omega
  · rw [z] at h1; have : (-9999003 : Int32).toInt = -9999003 := by decide
    omega
theorem gd_st {σ : Sg} {p a : Nat} (h : gd σ) : gd (oStudy σ p a) := h
theorem nx_st (σ : Sg) (p a : Nat) : nx σ (oStudy σ p a) := ⟨Nat.le_succ _, Nat.le_succ _⟩
theorem gd_il {σ : Sg} {a n b : Nat} (h : gd σ) : gd (oIll σ a n b) := h
theorem nx_il (σ : Sg) (a n b : Nat) : nx σ (oIll σ a n b) := ⟨Nat.le_succ _, Nat.le_succ _⟩
set_option maxRecDepth 100000 in
set_option maxHeartbeats 4000000 in
theorem n_study {l : Launch} {E : Ev} (hst : l.stackTraces = false) {α β : Nat → Nat} {K : Kt} {w v : va_W} (hA : Ark E α K w) (hQ : Ark E β K v) (hG : Gk K) {p a : Nat} (hp : p < sP K.1) (ha : a < sA K.1) : CtN l E yL_study cL_study 11 (some FieldType.boolean) none 10 219 2 [.ref (α 0), .ref (β 0), .int (nI p), .int (nI a)] (w ++ (v ++ [])) (fun v9 w9 => ∃ (K2 : Kt) (w1 w2 : va_W), v9 = some (.int (nI 1)) ∧ w9 = w1 ++ (w2 ++ []) ∧ Gk K2 ∧ K2.1 = K.1 ∧ Ark E α K2 w1 ∧ Ark E β K2 w2) := by
  have hW := hA.W
  have hwP := hW.P
  have hwA := hW.A
  have hCp := hW.C hp
  have hbl := bu_le K.1 p (sA K.1)
  refine ctn_of (by decide +kernel) (Nat.le_of_ble_eq_true rfl) (fun Ω hB => ?_)
  have C := hB.1 0 (by omega)
  have RT := hB.2.2.1 0 (by omega)
  show Ω 0 (w ++ (v ++ [])) [(0, .ref (α 0)), (1, .ref (β 0)), (2, .int (nI p)), (3, .int (nI a))] [] 0
  refine r_aload_n C (i := 0) 0 dL_study_0 rfl rfl ?_
  refine r_bipush C dL_study_1 kb_22 ?_
  refine r_iload_n C (i := 2) 2 dL_study_3 rfl rfl ?_
  refine r_iconst C dL_study_4 ki_0 ?_
  refine r_iconst C dL_study_5 ki_0 ?_
  refine Ca.at hB.2.2.2 hB.2.1 (j := 0) (K := 0) (rest := []) (pre := []) (suf := v ++ []) (by omega) (cl_best hst hA (p := p) (hp := (by omega))).l lk_L_call w_2_41 dL_study_6 rfl ⟨by decide, by decide⟩ (Nat.le_of_ble_eq_true rfl) ?_
  rintro _ w1 ⟨rfl, hA2⟩
  show Ω 0 (w1 ++ (v ++ [])) [(0, .ref (α 0)), (1, .ref (β 0)), (2, .int (nI p)), (3, .int (nI a))] [.int (mI ((bu K.1 p (sA K.1)).1))] 9
  refine r_istore C (lv' := [(4, .int (mI ((bu K.1 p (sA K.1)).1))), (0, .ref (α 0)), (1, .ref (β 0)), (2, .int (nI p)), (3, .int (nI a))]) dL_study_9 (by decide) rfl ?_
  refine r_iload C (i := 4) 0 dL_study_11 rfl ?_
  refine r_iconst C dL_study_13 ki_m1 ?_
  refine r_icmp_ne C (c9 := (bu K.1 p (sA K.1)).1 ≠ 0) 53 dL_study_14 (by decide) (c_neMM (by omega) (by omega)) (fun h14_3 => ?_) (fun h14_3 => ?_)
  · obtain ⟨b, hbe⟩ : ∃ b, (bu K.1 p (sA K.1)).1 = b + 1 := ⟨(bu K.1 p (sA K.1)).1 - 1, by omega⟩
    obtain ⟨hble, hcb, -, -, hbb⟩ := (bu_inv (σ := K.1) p (sA K.1)).2 (by omega)
    rw [hbe, Nat.add_sub_cancel] at hcb hbb
    refine r_lo (lv' := [(4, .int (nI b)), (0, .ref (α 0)), (1, .ref (β 0)), (2, .int (nI p)), (3, .int (nI a))]) (by rw [hbe, mI_s]) ?_
    refine r_aload_n C (i := 0) 1 dL_study_53 rfl rfl ?_
    refine r_bipush C dL_study_54 kb_13 ?_
    refine r_iload_n C (i := 2) 3 dL_study_56 rfl rfl ?_
    refine r_iload C (i := 4) 0 dL_study_57 rfl ?_
    refine r_iconst C dL_study_59 ki_0 ?_
    refine Ca.at hB.2.2.2 hB.2.1 (j := 0) (K := 0) (rest := []) (pre := []) (suf := v ++ []) (by omega) (cl_study hst hA2 (a := b) (p := p) (hp := hp) (ha := hcb.2.1) (hq := hcb.2.2.1) (hr := hcb.2.2.2)).l lk_L_call w_2_41 dL_study_60 rfl ⟨by decide, by decide⟩ (Nat.le_of_ble_eq_true rfl) ?_
    rintro _ w4 ⟨rfl, hA5⟩
    replace hA5 : Ark E α (kDo K (oStudy K.1 p b)) w4 := hA5
    show Ω 0 (w4 ++ (v ++ [])) [(4, .int (nI b)), (0, .ref (α 0)), (1, .ref (β 0)), (2, .int (nI p)), (3, .int (nI a))] [.int (nI (sC K.1 p + 1))] 63
    refine r_aload_n C (i := 1) 2 dL_study_63 rfl rfl ?_
    refine r_bipush C dL_study_64 kb_13 ?_
    refine r_iload_n C (i := 2) 3 dL_study_66 rfl rfl ?_
    refine r_iload C (i := 4) 0 dL_study_67 rfl ?_
    refine r_iconst C dL_study_69 ki_0 ?_
    refine Ca.at hB.2.2.2 hB.2.1 (j := 0) (K := 0) (rest := [.int (nI (sC K.1 p + 1))]) (pre := w4) (suf := []) (by omega) (cl_study hst hQ (a := b) (p := p) (hp := hp) (ha := hcb.2.1) (hq := hcb.2.2.1) (hr := hcb.2.2.2)).l lk_L_call w_2_41 dL_study_70 rfl ⟨by decide, by decide⟩ (Nat.le_of_ble_eq_true rfl) ?_
    rintro _ w6 ⟨rfl, hA7⟩
    replace hA7 : Ark E β (kDo K (oStudy K.1 p b)) w6 := hA7
    show Ω 0 (w4 ++ (w6 ++ [])) [(4, .int (nI b)), (0, .ref (α 0)), (1, .ref (β 0)), (2, .int (nI p)), (3, .int (nI a))] [.int (nI (sC K.1 p + 1)), .int (nI (sC K.1 p + 1))] 73
    refine r_icmp_neF C (tgt := 80) dL_study_73 (by decide) (fun z => ((fun z => z rfl) : ¬ ((nI (sC K.1 p + 1) : Int32) ≠ nI (sC K.1 p + 1))) (Iff.rfl.mp z)) ?_
    refine r_iconst C dL_study_76 ki_1 ?_
    refine r_goto C 81 dL_study_77 (by decide) ?_
    refine r_istore C (lv' := [(5, .int (nI 1)), (4, .int (nI b)), (0, .ref (α 0)), (1, .ref (β 0)), (2, .int (nI p)), (3, .int (nI a))]) dL_study_81 (by decide) rfl ?_
    refine r_aload_n C (i := 0) 2 dL_study_83 rfl rfl ?_
    refine r_iconst C dL_study_84 ki_2 ?_
    refine r_iconst C dL_study_85 ki_3 ?_
    refine r_iconst C dL_study_86 ki_0 ?_
    refine r_iconst C dL_study_87 ki_0 ?_
    refine Ca.at hB.2.2.2 hB.2.1 (j := 0) (K := 0) (rest := []) (pre := []) (suf := w6 ++ []) (by omega) (cl_about_3 hst hA5  ).l lk_L_call w_2_41 dL_study_88 rfl ⟨by decide, by decide⟩ (Nat.le_of_ble_eq_true rfl) ?_
    rintro _ w8 ⟨rfl, hA9⟩
    show Ω 0 (w8 ++ (w6 ++ [])) [(5, .int (nI 1)), (4, .int (nI b)), (0, .ref (α 0)), (1, .ref (β 0)), (2, .int (nI p)), (3, .int (nI a))] [.int (nI (dkS ((kDo K (oStudy K.1 p b)).1) 20))] 91
    refine r_istore C (lv' := [(6, .int (nI (dkS ((kDo K (oStudy K.1 p b)).1) 20))), (5, .int (nI 1)), (4, .int (nI b)), (0, .ref (α 0)), (1, .ref (β 0)), (2, .int (nI p)), (3, .int (nI a))]) dL_study_91 (by decide) rfl ?_
    refine r_aload_n C (i := 0) 3 dL_study_93 rfl rfl ?_
    refine r_iconst C dL_study_94 ki_2 ?_
    refine r_iconst C dL_study_95 ki_4 ?_
    refine r_iconst C dL_study_96 ki_0 ?_
    refine r_iconst C dL_study_97 ki_0 ?_
    refine Ca.at hB.2.2.2 hB.2.1 (j := 0) (K := 0) (rest := []) (pre := []) (suf := w6 ++ []) (by omega) (cl_about_4 hst hA9  ).l lk_L_call w_2_41 dL_study_98 rfl ⟨by decide, by decide⟩ (Nat.le_of_ble_eq_true rfl) ?_
    rintro _ w10 ⟨rfl, hA11⟩
    show Ω 0 (w10 ++ (w6 ++ [])) [(6, .int (nI (dkS ((kDo K (oStudy K.1 p b)).1) 20))), (5, .int (nI 1)), (4, .int (nI b)), (0, .ref (α 0)), (1, .ref (β 0)), (2, .int (nI p)), (3, .int (nI a))] [.int (nI (tkS ((kDo K (oStudy K.1 p b)).1) 20))] 101
    refine r_istore C (lv' := [(7, .int (nI (tkS ((kDo K (oStudy K.1 p b)).1) 20))), (6, .int (nI (dkS ((kDo K (oStudy K.1 p b)).1) 20))), (5, .int (nI 1)), (4, .int (nI b)), (0, .ref (α 0)), (1, .ref (β 0)), (2, .int (nI p)), (3, .int (nI a))]) dL_study_101 (by decide) rfl ?_
    refine r_iload C (i := 5) 2 dL_study_103 rfl ?_
    refine r_if_eqF C (y := 0) (tgt := 142) dL_study_105 (by decide) (fun z => ((by decide) : ¬ (1 = 0)) ((z_eqN (by omega)).mp z)) ?_
    refine r_aload_n C (i := 0) 4 dL_study_108 rfl rfl ?_
    refine r_bipush C dL_study_109 kb_17 ?_
    refine r_iconst C dL_study_111 ki_0 ?_
    refine r_iconst C dL_study_112 ki_0 ?_
    refine r_iconst C dL_study_113 ki_0 ?_
    refine Ca.at hB.2.2.2 hB.2.1 (j := 0) (K := 0) (rest := []) (pre := []) (suf := w6 ++ []) (by omega) (cl_undo hst hA11  (hq := push_ne)).l lk_L_call w_2_41 dL_study_114 rfl ⟨by decide, by decide⟩ (Nat.le_of_ble_eq_true rfl) ?_
    rintro _ w12 ⟨rfl, hA13⟩
    replace hA13 : Ark E α (kUn (kDo K (oStudy K.1 p b))) w12 := hA13
    show Ω 0 (w12 ++ (w6 ++ [])) [(7, .int (nI (tkS ((kDo K (oStudy K.1 p b)).1) 20))), (6, .int (nI (dkS ((kDo K (oStudy K.1 p b)).1) 20))), (5, .int (nI 1)), (4, .int (nI b)), (0, .ref (α 0)), (1, .ref (β 0)), (2, .int (nI p)), (3, .int (nI a))] [.int (nI (((kDo K (oStudy K.1 p b)).2.2.1) - 1))] 117
    refine r_readS (rest := []) C (c_L_thrown (x := (nI (((kDo K (oStudy K.1 p b)).2.2.1) - 1))) ) lk_L_thrown w_4_236 [] dL_study_117 rfl rfl rfl ⟨by decide, by decide⟩ (Nat.le_of_ble_eq_true rfl) (st' := [.int (bP (thr (nI (((kDo K (oStudy K.1 p b)).2.2.1) - 1))))]) rfl ?_
    refine r_if_neF C (y := 0) (tgt := 142) dL_study_120 (by decide) (fun z => ((thr_N (Nat.lt_of_le_of_lt hA13.N (by decide))) : ¬ (thr (nI (((kDo K (oStudy K.1 p b)).2.2.1) - 1)))) (z_neB.mp z)) ?_
    refine r_aload_n C (i := 1) 5 dL_study_123 rfl rfl ?_
    refine r_bipush C dL_study_124 kb_17 ?_
    refine r_iconst C dL_study_126 ki_0 ?_
    refine r_iconst C dL_study_127 ki_0 ?_
    refine r_iconst C dL_study_128 ki_0 ?_
    refine Ca.at hB.2.2.2 hB.2.1 (j := 0) (K := 0) (rest := []) (pre := w12) (suf := []) (by omega) (cl_undo hst hA7  (hq := push_ne)).l lk_L_call w_2_41 dL_study_129 rfl ⟨by decide, by decide⟩ (Nat.le_of_ble_eq_true rfl) ?_
    rintro _ w14 ⟨rfl, hA15⟩
    replace hA15 : Ark E β (kUn (kDo K (oStudy K.1 p b))) w14 := hA15
    show Ω 0 (w12 ++ (w14 ++ [])) [(7, .int (nI (tkS ((kDo K (oStudy K.1 p b)).1) 20))), (6, .int (nI (dkS ((kDo K (oStudy K.1 p b)).1) 20))), (5, .int (nI 1)), (4, .int (nI b)), (0, .ref (α 0)), (1, .ref (β 0)), (2, .int (nI p)), (3, .int (nI a))] [.int (nI (((kDo K (oStudy K.1 p b)).2.2.1) - 1))] 132
    refine r_readS (rest := []) C (c_L_thrown (x := (nI (((kDo K (oStudy K.1 p b)).2.2.1) - 1))) ) lk_L_thrown w_4_236 [] dL_study_132 rfl rfl rfl ⟨by decide, by decide⟩ (Nat.le_of_ble_eq_true rfl) (st' := [.int (bP (thr (nI (((kDo K (oStudy K.1 p b)).2.2.1) - 1))))]) rfl ?_
    refine r_if_neF C (y := 0) (tgt := 142) dL_study_135 (by decide) (fun z => ((thr_N (Nat.lt_of_le_of_lt hA15.N (by decide))) : ¬ (thr (nI (((kDo K (oStudy K.1 p b)).2.2.1) - 1)))) (z_neB.mp z)) ?_
    refine r_iconst C dL_study_138 ki_1 ?_
    refine r_goto C 143 dL_study_139 (by decide) ?_
    refine r_istore C (lv' := [(5, .int (nI 1)), (7, .int (nI (tkS ((kDo K (oStudy K.1 p b)).1) 20))), (6, .int (nI (dkS ((kDo K (oStudy K.1 p b)).1) 20))), (4, .int (nI b)), (0, .ref (α 0)), (1, .ref (β 0)), (2, .int (nI p)), (3, .int (nI a))]) dL_study_143 (by decide) rfl ?_
    obtain ⟨hG2, he2⟩ := Gk_back hG (gd_st (p := p) (a := b) hG.1) (nx_st K.1 p b)
    obtain ⟨K2, hK2⟩ : ∃ K2 : Kt, K2 = (kUn (kDo K (oStudy K.1 p b))) := ⟨_, rfl⟩
    rw [← hK2] at hG2 he2 hA13 hA15
    have hW2 := hA13.W
    have hp2 : p < sP K2.1 := by rw [he2]; exact hp
    have ha2 : a < sA K2.1 := by rw [he2]; exact ha
    have hC2 := hW2.C hp2
    by_cases hc : sC K2.1 p < 4 ∧ rk K2.1 p a = 0
    · have hgo := hc
      refine r_aload_n C (i := 0) 4 dL_study_145 rfl rfl ?_
      refine r_bipush C dL_study_146 kb_13 ?_
      refine r_iload_n C (i := 2) 6 dL_study_148 rfl rfl ?_
      refine r_iload_n C (i := 3) 7 dL_study_149 rfl rfl ?_
      refine r_iconst C dL_study_150 ki_0 ?_
      refine Ca.at hB.2.2.2 hB.2.1 (j := 0) (K := 0) (rest := []) (pre := []) (suf := w14 ++ []) (by omega) (cl_study hst hA13 (a := a) (p := p) (hp := hp2) (ha := ha2) (hq := hc.1) (hr := hc.2)).l lk_L_call w_2_41 dL_study_151 rfl ⟨by decide, by decide⟩ (Nat.le_of_ble_eq_true rfl) ?_
      rintro _ w16 ⟨rfl, hA17⟩
      replace hA17 : Ark E α (kDo K2 (oStudy K2.1 p a)) w16 := hA17
      show Ω 0 (w16 ++ (w14 ++ [])) [(5, .int (nI 1)), (7, .int (nI (tkS ((kDo K (oStudy K.1 p b)).1) 20))), (6, .int (nI (dkS ((kDo K (oStudy K.1 p b)).1) 20))), (4, .int (nI b)), (0, .ref (α 0)), (1, .ref (β 0)), (2, .int (nI p)), (3, .int (nI a))] [.int (nI (sC K2.1 p + 1))] 154
      refine r_istore C (lv' := [(8, .int (nI (sC K2.1 p + 1))), (5, .int (nI 1)), (7, .int (nI (tkS ((kDo K (oStudy K.1 p b)).1) 20))), (6, .int (nI (dkS ((kDo K (oStudy K.1 p b)).1) 20))), (4, .int (nI b)), (0, .ref (α 0)), (1, .ref (β 0)), (2, .int (nI p)), (3, .int (nI a))]) dL_study_154 (by decide) rfl ?_
      refine r_iload C (i := 5) 1 dL_study_156 rfl ?_
      refine r_if_eqF C (y := 0) (tgt := 179) dL_study_158 (by decide) (fun z => ((by decide) : ¬ (1 = 0)) ((z_eqN (by omega)).mp z)) ?_
      refine r_aload_n C (i := 1) 6 dL_study_161 rfl rfl ?_
      refine r_bipush C dL_study_162 kb_13 ?_
      refine r_iload_n C (i := 2) 7 dL_study_164 rfl rfl ?_
      refine r_iload_n C (i := 3) 8 dL_study_165 rfl rfl ?_
      refine r_iconst C dL_study_166 ki_0 ?_
      refine Ca.at hB.2.2.2 hB.2.1 (j := 0) (K := 0) (rest := []) (pre := w16) (suf := []) (by omega) (cl_study hst hA15 (a := a) (p := p) (hp := hp2) (ha := ha2) (hq := hc.1) (hr := hc.2)).l lk_L_call w_2_41 dL_study_167 rfl ⟨by decide, by decide⟩ (Nat.le_of_ble_eq_true rfl) ?_
      rintro _ w18 ⟨rfl, hA19⟩
      replace hA19 : Ark E β (kDo K2 (oStudy K2.1 p a)) w18 := hA19
      show Ω 0 (w16 ++ (w18 ++ [])) [(8, .int (nI (sC K2.1 p + 1))), (5, .int (nI 1)), (7, .int (nI (tkS ((kDo K (oStudy K.1 p b)).1) 20))), (6, .int (nI (dkS ((kDo K (oStudy K.1 p b)).1) 20))), (4, .int (nI b)), (0, .ref (α 0)), (1, .ref (β 0)), (2, .int (nI p)), (3, .int (nI a))] [.int (nI (sC K2.1 p + 1))] 170
      refine r_iload C (i := 8) 0 dL_study_170 rfl ?_
      refine r_icmp_neF C (tgt := 179) dL_study_172 (by decide) (fun z => ((fun z => z rfl) : ¬ ((nI (sC K2.1 p + 1) : Int32) ≠ nI (sC K2.1 p + 1))) (Iff.rfl.mp z)) ?_
      refine r_iconst C dL_study_175 ki_1 ?_
      refine r_goto C 180 dL_study_176 (by decide) ?_
      refine r_istore C (lv' := [(5, .int (nI 1)), (8, .int (nI (sC K2.1 p + 1))), (7, .int (nI (tkS ((kDo K (oStudy K.1 p b)).1) 20))), (6, .int (nI (dkS ((kDo K (oStudy K.1 p b)).1) 20))), (4, .int (nI b)), (0, .ref (α 0)), (1, .ref (β 0)), (2, .int (nI p)), (3, .int (nI a))]) dL_study_180 (by decide) rfl ?_
      refine r_iload C (i := 8) 1 dL_study_182 rfl ?_
      refine r_readS (rest := []) C (c_L_thrown (x := (nI (sC K2.1 p + 1))) ) lk_L_thrown w_4_236 [] dL_study_184 rfl rfl rfl ⟨by decide, by decide⟩ (Nat.le_of_ble_eq_true rfl) (st' := [.int (bP (thr (nI (sC K2.1 p + 1))))]) rfl ?_
      refine r_if_neF C (y := 0) (tgt := 286) dL_study_187 (by decide) (fun z => ((thr_N (by omega)) : ¬ (thr (nI (sC K2.1 p + 1)))) (z_neB.mp z)) ?_
      refine r_iload C (i := 5) 0 dL_study_190 rfl ?_
      refine r_if_eqF C (y := 0) (tgt := 286) dL_study_192 (by decide) (fun z => ((by decide) : ¬ (1 = 0)) ((z_eqN (by omega)).mp z)) ?_
      refine r_aload_n C (i := 0) 5 dL_study_195 rfl rfl ?_
      refine r_iconst C dL_study_196 ki_2 ?_
      refine r_iconst C dL_study_197 ki_3 ?_
      refine r_iconst C dL_study_198 ki_0 ?_
      refine r_iconst C dL_study_199 ki_0 ?_
      refine Ca.at hB.2.2.2 hB.2.1 (j := 0) (K := 0) (rest := []) (pre := []) (suf := w18 ++ []) (by omega) (cl_about_3 hst hA17  ).l lk_L_call w_2_41 dL_study_200 rfl ⟨by decide, by decide⟩ (Nat.le_of_ble_eq_true rfl) ?_
      rintro _ w20 ⟨rfl, hA21⟩
      show Ω 0 (w20 ++ (w18 ++ [])) [(5, .int (nI 1)), (8, .int (nI (sC K2.1 p + 1))), (7, .int (nI (tkS ((kDo K (oStudy K.1 p b)).1) 20))), (6, .int (nI (dkS ((kDo K (oStudy K.1 p b)).1) 20))), (4, .int (nI b)), (0, .ref (α 0)), (1, .ref (β 0)), (2, .int (nI p)), (3, .int (nI a))] [.int (nI (dkS ((kDo K2 (oStudy K2.1 p a)).1) 20))] 203
      refine r_istore C (lv' := [(9, .int (nI (dkS ((kDo K2 (oStudy K2.1 p a)).1) 20))), (5, .int (nI 1)), (8, .int (nI (sC K2.1 p + 1))), (7, .int (nI (tkS ((kDo K (oStudy K.1 p b)).1) 20))), (6, .int (nI (dkS ((kDo K (oStudy K.1 p b)).1) 20))), (4, .int (nI b)), (0, .ref (α 0)), (1, .ref (β 0)), (2, .int (nI p)), (3, .int (nI a))]) dL_study_203 (by decide) rfl ?_
      refine r_aload_n C (i := 0) 6 dL_study_205 rfl rfl ?_
      refine r_iconst C dL_study_206 ki_2 ?_
      refine r_iconst C dL_study_207 ki_4 ?_
      refine r_iconst C dL_study_208 ki_0 ?_
      refine r_iconst C dL_study_209 ki_0 ?_
      refine Ca.at hB.2.2.2 hB.2.1 (j := 0) (K := 0) (rest := []) (pre := []) (suf := w18 ++ []) (by omega) (cl_about_4 hst hA21  ).l lk_L_call w_2_41 dL_study_210 rfl ⟨by decide, by decide⟩ (Nat.le_of_ble_eq_true rfl) ?_
      rintro _ w22 ⟨rfl, hA23⟩
      show Ω 0 (w22 ++ (w18 ++ [])) [(9, .int (nI (dkS ((kDo K2 (oStudy K2.1 p a)).1) 20))), (5, .int (nI 1)), (8, .int (nI (sC K2.1 p + 1))), (7, .int (nI (tkS ((kDo K (oStudy K.1 p b)).1) 20))), (6, .int (nI (dkS ((kDo K (oStudy K.1 p b)).1) 20))), (4, .int (nI b)), (0, .ref (α 0)), (1, .ref (β 0)), (2, .int (nI p)), (3, .int (nI a))] [.int (nI (tkS ((kDo K2 (oStudy K2.1 p a)).1) 20))] 213
      refine r_istore C (lv' := [(10, .int (nI (tkS ((kDo K2 (oStudy K2.1 p a)).1) 20))), (9, .int (nI (dkS ((kDo K2 (oStudy K2.1 p a)).1) 20))), (5, .int (nI 1)), (8, .int (nI (sC K2.1 p + 1))), (7, .int (nI (tkS ((kDo K (oStudy K.1 p b)).1) 20))), (6, .int (nI (dkS ((kDo K (oStudy K.1 p b)).1) 20))), (4, .int (nI b)), (0, .ref (α 0)), (1, .ref (β 0)), (2, .int (nI p)), (3, .int (nI a))]) dL_study_213 (by decide) rfl ?_
      have hbA : b < sA K.1 := hcb.2.1
      have hbt : dkS (kDo K (oStudy K.1 p b)).1 20 < dkS (kDo K2 (oStudy K2.1 p a)).1 20 ∨ (dkS (kDo K (oStudy K.1 p b)).1 20 = dkS (kDo K2 (oStudy K2.1 p a)).1 20 ∧ (tkS (kDo K2 (oStudy K2.1 p a)).1 20 < tkS (kDo K (oStudy K.1 p b)).1 20 ∨ (tkS (kDo K2 (oStudy K2.1 p a)).1 20 = tkS (kDo K (oStudy K.1 p b)).1 20 ∧ b ≤ a))) := by
        rw [he2] at hc ⊢
        exact hbb a ha ⟨hp, ha, hc.1, hc.2⟩
      have hq1 := dkS_le (kDo K (oStudy K.1 p b)).1 20
      have hq2 := dkS_le (kDo K2 (oStudy K2.1 p a)).1 20
      have hq3 : tkS (kDo K (oStudy K.1 p b)).1 20 ≤ 585 * 20 := tkS_le (oStudy_wf hW hcb.2.1 hcb.2.2.1) (Nat.le_refl 20)
      have hq4 : tkS (kDo K2 (oStudy K2.1 p a)).1 20 ≤ 585 * 20 := tkS_le (oStudy_wf hW2 ha2 hc.1) (Nat.le_refl 20)
      refine r_iload C (i := 9) 1 dL_study_215 rfl ?_
      refine r_iload C (i := 6) 5 dL_study_217 rfl ?_
      refine r_icmp_gt C (c9 := dkS ((kDo K (oStudy K.1 p b)).1) 20 < dkS ((kDo K2 (oStudy K2.1 p a)).1) 20) 249 dL_study_219 (by decide) (c_ltNN (by omega) (by omega)) (fun h219_24 => ?_) (fun h219_24 => ?_)
      · refine r_aload_n C (i := 0) 7 dL_study_249 rfl rfl ?_
        refine r_bipush C dL_study_250 kb_17 ?_
        refine r_iconst C dL_study_252 ki_0 ?_
        refine r_iconst C dL_study_253 ki_0 ?_
        refine r_iconst C dL_study_254 ki_0 ?_
        refine Ca.at hB.2.2.2 hB.2.1 (j := 0) (K := 0) (rest := []) (pre := []) (suf := w18 ++ []) (by omega) (cl_undo hst hA23  (hq := push_ne)).l lk_L_call w_2_41 dL_study_255 rfl ⟨by decide, by decide⟩ (Nat.le_of_ble_eq_true rfl) ?_
        rintro _ w25 ⟨rfl, hA26⟩
        replace hA26 : Ark E α (kUn (kDo K2 (oStudy K2.1 p a))) w25 := hA26
        show Ω 0 (w25 ++ (w18 ++ [])) [(10, .int (nI (tkS ((kDo K2 (oStudy K2.1 p a)).1) 20))), (9, .int (nI (dkS ((kDo K2 (oStudy K2.1 p a)).1) 20))), (5, .int (nI 1)), (8, .int (nI (sC K2.1 p + 1))), (7, .int (nI (tkS ((kDo K (oStudy K.1 p b)).1) 20))), (6, .int (nI (dkS ((kDo K (oStudy K.1 p b)).1) 20))), (4, .int (nI b)), (0, .ref (α 0)), (1, .ref (β 0)), (2, .int (nI p)), (3, .int (nI a))] [.int (nI (((kDo K2 (oStudy K2.1 p a)).2.2.1) - 1))] 258
        refine r_readS (rest := []) C (c_L_thrown (x := (nI (((kDo K2 (oStudy K2.1 p a)).2.2.1) - 1))) ) lk_L_thrown w_4_236 [] dL_study_258 rfl rfl rfl ⟨by decide, by decide⟩ (Nat.le_of_ble_eq_true rfl) (st' := [.int (bP (thr (nI (((kDo K2 (oStudy K2.1 p a)).2.2.1) - 1))))]) rfl ?_
        refine r_if_neF C (y := 0) (tgt := 283) dL_study_261 (by decide) (fun z => ((thr_N (Nat.lt_of_le_of_lt hA26.N (by decide))) : ¬ (thr (nI (((kDo K2 (oStudy K2.1 p a)).2.2.1) - 1)))) (z_neB.mp z)) ?_
        refine r_aload_n C (i := 1) 8 dL_study_264 rfl rfl ?_
        refine r_bipush C dL_study_265 kb_17 ?_
        refine r_iconst C dL_study_267 ki_0 ?_
        refine r_iconst C dL_study_268 ki_0 ?_
        refine r_iconst C dL_study_269 ki_0 ?_
        refine Ca.at hB.2.2.2 hB.2.1 (j := 0) (K := 0) (rest := []) (pre := w25) (suf := []) (by omega) (cl_undo hst hA19  (hq := push_ne)).l lk_L_call w_2_41 dL_study_270 rfl ⟨by decide, by decide⟩ (Nat.le_of_ble_eq_true rfl) ?_
        rintro _ w27 ⟨rfl, hA28⟩
        replace hA28 : Ark E β (kUn (kDo K2 (oStudy K2.1 p a))) w27 := hA28
        show Ω 0 (w25 ++ (w27 ++ [])) [(10, .int (nI (tkS ((kDo K2 (oStudy K2.1 p a)).1) 20))), (9, .int (nI (dkS ((kDo K2 (oStudy K2.1 p a)).1) 20))), (5, .int (nI 1)), (8, .int (nI (sC K2.1 p + 1))), (7, .int (nI (tkS ((kDo K (oStudy K.1 p b)).1) 20))), (6, .int (nI (dkS ((kDo K (oStudy K.1 p b)).1) 20))), (4, .int (nI b)), (0, .ref (α 0)), (1, .ref (β 0)), (2, .int (nI p)), (3, .int (nI a))] [.int (nI (((kDo K2 (oStudy K2.1 p a)).2.2.1) - 1))] 273
        refine r_readS (rest := []) C (c_L_thrown (x := (nI (((kDo K2 (oStudy K2.1 p a)).2.2.1) - 1))) ) lk_L_thrown w_4_236 [] dL_study_273 rfl rfl rfl ⟨by decide, by decide⟩ (Nat.le_of_ble_eq_true rfl) (st' := [.int (bP (thr (nI (((kDo K2 (oStudy K2.1 p a)).2.2.1) - 1))))]) rfl ?_
        refine r_if_neF C (y := 0) (tgt := 283) dL_study_276 (by decide) (fun z => ((thr_N (Nat.lt_of_le_of_lt hA28.N (by decide))) : ¬ (thr (nI (((kDo K2 (oStudy K2.1 p a)).2.2.1) - 1)))) (z_neB.mp z)) ?_
        refine r_iconst C dL_study_279 ki_1 ?_
        refine r_goto C 284 dL_study_280 (by decide) ?_
        refine r_istore C (lv' := [(5, .int (nI 1)), (10, .int (nI (tkS ((kDo K2 (oStudy K2.1 p a)).1) 20))), (9, .int (nI (dkS ((kDo K2 (oStudy K2.1 p a)).1) 20))), (8, .int (nI (sC K2.1 p + 1))), (7, .int (nI (tkS ((kDo K (oStudy K.1 p b)).1) 20))), (6, .int (nI (dkS ((kDo K (oStudy K.1 p b)).1) 20))), (4, .int (nI b)), (0, .ref (α 0)), (1, .ref (β 0)), (2, .int (nI p)), (3, .int (nI a))]) dL_study_284 (by decide) rfl ?_
        refine r_iload C (i := 5) 0 dL_study_286 rfl ?_
        exact RT.1 _ _ _ _ _ dL_study_288 rfl nar_1 (⟨(kUn (kDo K2 (oStudy K2.1 p a))), _, _, rfl, rfl, (Gk_back hG2 (gd_st hG2.1) (nx_st _ _ _)).1, (Gk_back hG2 (gd_st (p := p) (a := a) hG2.1) (nx_st _ _ _)).2.trans he2, hA26, hA28⟩) (fst2 hA26 hA hA28 hQ)
      · refine r_iload C (i := 9) 1 dL_study_222 rfl ?_
        refine r_iload C (i := 6) 5 dL_study_224 rfl ?_
        refine r_icmp_neF C (tgt := 283) dL_study_226 (by decide) (fun z => ((by omega) : ¬ (dkS ((kDo K2 (oStudy K2.1 p a)).1) 20 ≠ dkS ((kDo K (oStudy K.1 p b)).1) 20)) ((c_neNN (by omega) (by omega)).mp z)) ?_
        refine r_iload C (i := 10) 0 dL_study_229 rfl ?_
        refine r_iload C (i := 7) 4 dL_study_231 rfl ?_
        refine r_icmp_lt C (c9 := tkS ((kDo K2 (oStudy K2.1 p a)).1) 20 < tkS ((kDo K (oStudy K.1 p b)).1) 20) 249 dL_study_233 (by decide) (c_ltNN (by omega) (by omega)) (fun h233_29 => ?_) (fun h233_29 => ?_)
        · refine r_aload_n C (i := 0) 7 dL_study_249 rfl rfl ?_
          refine r_bipush C dL_study_250 kb_17 ?_
          refine r_iconst C dL_study_252 ki_0 ?_
          refine r_iconst C dL_study_253 ki_0 ?_
          refine r_iconst C dL_study_254 ki_0 ?_
          refine Ca.at hB.2.2.2 hB.2.1 (j := 0) (K := 0) (rest := []) (pre := []) (suf := w18 ++ []) (by omega) (cl_undo hst hA23  (hq := push_ne)).l lk_L_call w_2_41 dL_study_255 rfl ⟨by decide, by decide⟩ (Nat.le_of_ble_eq_true rfl) ?_
          rintro _ w30 ⟨rfl, hA31⟩
          replace hA31 : Ark E α (kUn (kDo K2 (oStudy K2.1 p a))) w30 := hA31
          show Ω 0 (w30 ++ (w18 ++ [])) [(10, .int (nI (tkS ((kDo K2 (oStudy K2.1 p a)).1) 20))), (9, .int (nI (dkS ((kDo K2 (oStudy K2.1 p a)).1) 20))), (5, .int (nI 1)), (8, .int (nI (sC K2.1 p + 1))), (7, .int (nI (tkS ((kDo K (oStudy K.1 p b)).1) 20))), (6, .int (nI (dkS ((kDo K (oStudy K.1 p b)).1) 20))), (4, .int (nI b)), (0, .ref (α 0)), (1, .ref (β 0)), (2, .int (nI p)), (3, .int (nI a))] [.int (nI (((kDo K2 (oStudy K2.1 p a)).2.2.1) - 1))] 258
          refine r_readS (rest := []) C (c_L_thrown (x := (nI (((kDo K2 (oStudy K2.1 p a)).2.2.1) - 1))) ) lk_L_thrown w_4_236 [] dL_study_258 rfl rfl rfl ⟨by decide, by decide⟩ (Nat.le_of_ble_eq_true rfl) (st' := [.int (bP (thr (nI (((kDo K2 (oStudy K2.1 p a)).2.2.1) - 1))))]) rfl ?_
          refine r_if_neF C (y := 0) (tgt := 283) dL_study_261 (by decide) (fun z => ((thr_N (Nat.lt_of_le_of_lt hA31.N (by decide))) : ¬ (thr (nI (((kDo K2 (oStudy K2.1 p a)).2.2.1) - 1)))) (z_neB.mp z)) ?_
          refine r_aload_n C (i := 1) 8 dL_study_264 rfl rfl ?_
          refine r_bipush C dL_study_265 kb_17 ?_
          refine r_iconst C dL_study_267 ki_0 ?_
          refine r_iconst C dL_study_268 ki_0 ?_
          refine r_iconst C dL_study_269 ki_0 ?_
          refine Ca.at hB.2.2.2 hB.2.1 (j := 0) (K := 0) (rest := []) (pre := w30) (suf := []) (by omega) (cl_undo hst hA19  (hq := push_ne)).l lk_L_call w_2_41 dL_study_270 rfl ⟨by decide, by decide⟩ (Nat.le_of_ble_eq_true rfl) ?_
          rintro _ w32 ⟨rfl, hA33⟩
          replace hA33 : Ark E β (kUn (kDo K2 (oStudy K2.1 p a))) w32 := hA33
          show Ω 0 (w30 ++ (w32 ++ [])) [(10, .int (nI (tkS ((kDo K2 (oStudy K2.1 p a)).1) 20))), (9, .int (nI (dkS ((kDo K2 (oStudy K2.1 p a)).1) 20))), (5, .int (nI 1)), (8, .int (nI (sC K2.1 p + 1))), (7, .int (nI (tkS ((kDo K (oStudy K.1 p b)).1) 20))), (6, .int (nI (dkS ((kDo K (oStudy K.1 p b)).1) 20))), (4, .int (nI b)), (0, .ref (α 0)), (1, .ref (β 0)), (2, .int (nI p)), (3, .int (nI a))] [.int (nI (((kDo K2 (oStudy K2.1 p a)).2.2.1) - 1))] 273
          refine r_readS (rest := []) C (c_L_thrown (x := (nI (((kDo K2 (oStudy K2.1 p a)).2.2.1) - 1))) ) lk_L_thrown w_4_236 [] dL_study_273 rfl rfl rfl ⟨by decide, by decide⟩ (Nat.le_of_ble_eq_true rfl) (st' := [.int (bP (thr (nI (((kDo K2 (oStudy K2.1 p a)).2.2.1) - 1))))]) rfl ?_
          refine r_if_neF C (y := 0) (tgt := 283) dL_study_276 (by decide) (fun z => ((thr_N (Nat.lt_of_le_of_lt hA33.N (by decide))) : ¬ (thr (nI (((kDo K2 (oStudy K2.1 p a)).2.2.1) - 1)))) (z_neB.mp z)) ?_
          refine r_iconst C dL_study_279 ki_1 ?_
          refine r_goto C 284 dL_study_280 (by decide) ?_
          refine r_istore C (lv' := [(5, .int (nI 1)), (10, .int (nI (tkS ((kDo K2 (oStudy K2.1 p a)).1) 20))), (9, .int (nI (dkS ((kDo K2 (oStudy K2.1 p a)).1) 20))), (8, .int (nI (sC K2.1 p + 1))), (7, .int (nI (tkS ((kDo K (oStudy K.1 p b)).1) 20))), (6, .int (nI (dkS ((kDo K (oStudy K.1 p b)).1) 20))), (4, .int (nI b)), (0, .ref (α 0)), (1, .ref (β 0)), (2, .int (nI p)), (3, .int (nI a))]) dL_study_284 (by decide) rfl ?_
          refine r_iload C (i := 5) 0 dL_study_286 rfl ?_
          exact RT.1 _ _ _ _ _ dL_study_288 rfl nar_1 (⟨(kUn (kDo K2 (oStudy K2.1 p a))), _, _, rfl, rfl, (Gk_back hG2 (gd_st hG2.1) (nx_st _ _ _)).1, (Gk_back hG2 (gd_st (p := p) (a := a) hG2.1) (nx_st _ _ _)).2.trans he2, hA31, hA33⟩) (fst2 hA31 hA hA33 hQ)
        · refine r_iload C (i := 10) 0 dL_study_236 rfl ?_
          refine r_iload C (i := 7) 4 dL_study_238 rfl ?_
          refine r_icmp_neF C (tgt := 283) dL_study_240 (by decide) (fun z => ((by omega) : ¬ (tkS ((kDo K2 (oStudy K2.1 p a)).1) 20 ≠ tkS ((kDo K (oStudy K.1 p b)).1) 20)) ((c_neNN (by omega) (by omega)).mp z)) ?_
          refine r_iload_n C (i := 3) 10 dL_study_243 rfl rfl ?_
          refine r_iload C (i := 4) 6 dL_study_244 rfl ?_
          refine r_icmp_ltF C (tgt := 283) dL_study_246 (by decide) (fun z => ((by omega) : ¬ (a < b)) ((c_ltNN (by omega) (by omega)).mp z)) ?_
          refine r_aload_n C (i := 0) 7 dL_study_249 rfl rfl ?_
          refine r_bipush C dL_study_250 kb_17 ?_
          refine r_iconst C dL_study_252 ki_0 ?_
          refine r_iconst C dL_study_253 ki_0 ?_
          refine r_iconst C dL_study_254 ki_0 ?_
          refine Ca.at hB.2.2.2 hB.2.1 (j := 0) (K := 0) (rest := []) (pre := []) (suf := w18 ++ []) (by omega) (cl_undo hst hA23  (hq := push_ne)).l lk_L_call w_2_41 dL_study_255 rfl ⟨by decide, by decide⟩ (Nat.le_of_ble_eq_true rfl) ?_
          rintro _ w34 ⟨rfl, hA35⟩
          replace hA35 : Ark E α (kUn (kDo K2 (oStudy K2.1 p a))) w34 := hA35
          show Ω 0 (w34 ++ (w18 ++ [])) [(10, .int (nI (tkS ((kDo K2 (oStudy K2.1 p a)).1) 20))), (9, .int (nI (dkS ((kDo K2 (oStudy K2.1 p a)).1) 20))), (5, .int (nI 1)), (8, .int (nI (sC K2.1 p + 1))), (7, .int (nI (tkS ((kDo K (oStudy K.1 p b)).1) 20))), (6, .int (nI (dkS ((kDo K (oStudy K.1 p b)).1) 20))), (4, .int (nI b)), (0, .ref (α 0)), (1, .ref (β 0)), (2, .int (nI p)), (3, .int (nI a))] [.int (nI (((kDo K2 (oStudy K2.1 p a)).2.2.1) - 1))] 258
          refine r_readS (rest := []) C (c_L_thrown (x := (nI (((kDo K2 (oStudy K2.1 p a)).2.2.1) - 1))) ) lk_L_thrown w_4_236 [] dL_study_258 rfl rfl rfl ⟨by decide, by decide⟩ (Nat.le_of_ble_eq_true rfl) (st' := [.int (bP (thr (nI (((kDo K2 (oStudy K2.1 p a)).2.2.1) - 1))))]) rfl ?_
          refine r_if_neF C (y := 0) (tgt := 283) dL_study_261 (by decide) (fun z => ((thr_N (Nat.lt_of_le_of_lt hA35.N (by decide))) : ¬ (thr (nI (((kDo K2 (oStudy K2.1 p a)).2.2.1) - 1)))) (z_neB.mp z)) ?_
          refine r_aload_n C (i := 1) 8 dL_study_264 rfl rfl ?_
          refine r_bipush C dL_study_265 kb_17 ?_
          refine r_iconst C dL_study_267 ki_0 ?_
          refine r_iconst C dL_study_268 ki_0 ?_
          refine r_iconst C dL_study_269 ki_0 ?_
          refine Ca.at hB.2.2.2 hB.2.1 (j := 0) (K := 0) (rest := []) (pre := w34) (suf := []) (by omega) (cl_undo hst hA19  (hq := push_ne)).l lk_L_call w_2_41 dL_study_270 rfl ⟨by decide, by decide⟩ (Nat.le_of_ble_eq_true rfl) ?_
          rintro _ w36 ⟨rfl, hA37⟩
          replace hA37 : Ark E β (kUn (kDo K2 (oStudy K2.1 p a))) w36 := hA37
          show Ω 0 (w34 ++ (w36 ++ [])) [(10, .int (nI (tkS ((kDo K2 (oStudy K2.1 p a)).1) 20))), (9, .int (nI (dkS ((kDo K2 (oStudy K2.1 p a)).1) 20))), (5, .int (nI 1)), (8, .int (nI (sC K2.1 p + 1))), (7, .int (nI (tkS ((kDo K (oStudy K.1 p b)).1) 20))), (6, .int (nI (dkS ((kDo K (oStudy K.1 p b)).1) 20))), (4, .int (nI b)), (0, .ref (α 0)), (1, .ref (β 0)), (2, .int (nI p)), (3, .int (nI a))] [.int (nI (((kDo K2 (oStudy K2.1 p a)).2.2.1) - 1))] 273
          refine r_readS (rest := []) C (c_L_thrown (x := (nI (((kDo K2 (oStudy K2.1 p a)).2.2.1) - 1))) ) lk_L_thrown w_4_236 [] dL_study_273 rfl rfl rfl ⟨by decide, by decide⟩ (Nat.le_of_ble_eq_true rfl) (st' := [.int (bP (thr (nI (((kDo K2 (oStudy K2.1 p a)).2.2.1) - 1))))]) rfl ?_
          refine r_if_neF C (y := 0) (tgt := 283) dL_study_276 (by decide) (fun z => ((thr_N (Nat.lt_of_le_of_lt hA37.N (by decide))) : ¬ (thr (nI (((kDo K2 (oStudy K2.1 p a)).2.2.1) - 1)))) (z_neB.mp z)) ?_
          refine r_iconst C dL_study_279 ki_1 ?_
          refine r_goto C 284 dL_study_280 (by decide) ?_
          refine r_istore C (lv' := [(5, .int (nI 1)), (10, .int (nI (tkS ((kDo K2 (oStudy K2.1 p a)).1) 20))), (9, .int (nI (dkS ((kDo K2 (oStudy K2.1 p a)).1) 20))), (8, .int (nI (sC K2.1 p + 1))), (7, .int (nI (tkS ((kDo K (oStudy K.1 p b)).1) 20))), (6, .int (nI (dkS ((kDo K (oStudy K.1 p b)).1) 20))), (4, .int (nI b)), (0, .ref (α 0)), (1, .ref (β 0)), (2, .int (nI p)), (3, .int (nI a))]) dL_study_284 (by decide) rfl ?_
          refine r_iload C (i := 5) 0 dL_study_286 rfl ?_
          exact RT.1 _ _ _ _ _ dL_study_288 rfl nar_1 (⟨(kUn (kDo K2 (oStudy K2.1 p a))), _, _, rfl, rfl, (Gk_back hG2 (gd_st hG2.1) (nx_st _ _ _)).1, (Gk_back hG2 (gd_st (p := p) (a := a) hG2.1) (nx_st _ _ _)).2.trans he2, hA35, hA37⟩) (fst2 hA35 hA hA37 hQ)
    · have hgo := hc
      refine r_aload_n C (i := 0) 4 dL_study_145 rfl rfl ?_
      refine r_bipush C dL_study_146 kb_13 ?_
      refine r_iload_n C (i := 2) 6 dL_study_148 rfl rfl ?_
      refine r_iload_n C (i := 3) 7 dL_study_149 rfl rfl ?_
      refine r_iconst C dL_study_150 ki_0 ?_
      refine Ca.at hB.2.2.2 hB.2.1 (j := 0) (K := 1) (rest := []) (pre := []) (suf := w14 ++ []) (by omega) (cl_study_nc hst hA13 (a := a) (p := p) (hp := hp2) (ha := ha2) (hx := hc)).l lk_L_call w_2_41 dL_study_151 rfl ⟨by decide, by decide⟩ (Nat.le_of_ble_eq_true rfl) ?_
      rintro _ w38 ⟨rfl, hA39⟩
      have C := hB.1 1 (by omega)
      have RT := hB.2.2.1 1 (by omega)
      show Ω 1 (w38 ++ (w14 ++ [])) [(5, .int (nI 1)), (7, .int (nI (tkS ((kDo K (oStudy K.1 p b)).1) 20))), (6, .int (nI (dkS ((kDo K (oStudy K.1 p b)).1) 20))), (4, .int (nI b)), (0, .ref (α 0)), (1, .ref (β 0)), (2, .int (nI p)), (3, .int (nI a))] [.int (-9999003)] 154
      refine r_istore C (lv' := [(8, .int (-9999003)), (5, .int (nI 1)), (7, .int (nI (tkS ((kDo K (oStudy K.1 p b)).1) 20))), (6, .int (nI (dkS ((kDo K (oStudy K.1 p b)).1) 20))), (4, .int (nI b)), (0, .ref (α 0)), (1, .ref (β 0)), (2, .int (nI p)), (3, .int (nI a))]) dL_study_154 (by decide) rfl ?_
      refine r_iload C (i := 5) 1 dL_study_156 rfl ?_
      refine r_if_eqF C (y := 0) (tgt := 179) dL_study_158 (by decide) (fun z => ((by decide) : ¬ (1 = 0)) ((z_eqN (by omega)).mp z)) ?_
      refine r_aload_n C (i := 1) 6 dL_study_161 rfl rfl ?_
      refine r_bipush C dL_study_162 kb_13 ?_
      refine r_iload_n C (i := 2) 7 dL_study_164 rfl rfl ?_
      refine r_iload_n C (i := 3) 8 dL_study_165 rfl rfl ?_
      refine r_iconst C dL_study_166 ki_0 ?_
      refine Ca.at hB.2.2.2 hB.2.1 (j := 1) (K := 1) (rest := []) (pre := w38) (suf := []) (by omega) (cl_study_nc hst hA15 (a := a) (p := p) (hp := hp2) (ha := ha2) (hx := hc)).l lk_L_call w_2_41 dL_study_167 rfl ⟨by decide, by decide⟩ (Nat.le_of_ble_eq_true rfl) ?_
      rintro _ w40 ⟨rfl, hA41⟩
      have C := hB.1 2 (by omega)
      have RT := hB.2.2.1 2 (by omega)
      show Ω 2 (w38 ++ (w40 ++ [])) [(8, .int (-9999003)), (5, .int (nI 1)), (7, .int (nI (tkS ((kDo K (oStudy K.1 p b)).1) 20))), (6, .int (nI (dkS ((kDo K (oStudy K.1 p b)).1) 20))), (4, .int (nI b)), (0, .ref (α 0)), (1, .ref (β 0)), (2, .int (nI p)), (3, .int (nI a))] [.int (-9999003)] 170
      refine r_iload C (i := 8) 0 dL_study_170 rfl ?_
      refine r_icmp_neF C (tgt := 179) dL_study_172 (by decide) (fun z => ((fun z => z rfl) : ¬ (((-9999003) : Int32) ≠ (-9999003))) (Iff.rfl.mp z)) ?_
      refine r_iconst C dL_study_175 ki_1 ?_
      refine r_goto C 180 dL_study_176 (by decide) ?_
      refine r_istore C (lv' := [(5, .int (nI 1)), (8, .int (-9999003)), (7, .int (nI (tkS ((kDo K (oStudy K.1 p b)).1) 20))), (6, .int (nI (dkS ((kDo K (oStudy K.1 p b)).1) 20))), (4, .int (nI b)), (0, .ref (α 0)), (1, .ref (β 0)), (2, .int (nI p)), (3, .int (nI a))]) dL_study_180 (by decide) rfl ?_
      refine r_iload C (i := 8) 1 dL_study_182 rfl ?_
      refine r_readS (rest := []) C (c_L_thrown (x := (-9999003)) ) lk_L_thrown w_4_236 [] dL_study_184 rfl rfl rfl ⟨by decide, by decide⟩ (Nat.le_of_ble_eq_true rfl) (st' := [.int (bP (thr (-9999003)))]) rfl ?_
      refine r_if_neT C (y := 0) 286 dL_study_187 (by decide) (z_neB.mpr (Or.inr (Or.inr rfl))) ?_
      refine r_iload C (i := 5) 0 dL_study_286 rfl ?_
      exact RT.1 _ _ _ _ _ dL_study_288 rfl nar_1 (⟨K2, _, _, rfl, rfl, hG2, he2, hA39, hA41⟩) (fst2 hA39 hA hA41 hQ)
  · have h14 := Decidable.not_not.mp h14_3
    refine r_aload_n C (i := 0) 1 dL_study_17 rfl rfl ?_
    refine r_bipush C dL_study_18 kb_13 ?_
    refine r_iload_n C (i := 2) 3 dL_study_20 rfl rfl ?_
    refine r_iload_n C (i := 3) 4 dL_study_21 rfl rfl ?_
    refine r_iconst C dL_study_22 ki_0 ?_
    refine Ca.at hB.2.2.2 hB.2.1 (j := 0) (K := 1) (rest := []) (pre := []) (suf := v ++ []) (by omega) (cl_study_nc hst hA2 (a := a) (p := p) (hp := (by omega)) (ha := (by omega)) (hx := (fun z => (bu_inv (σ := K.1) p (sA K.1)).1 h14 a ha ⟨hp, ha, z.1, z.2⟩))).l lk_L_call w_2_41 dL_study_23 rfl ⟨by decide, by decide⟩ (Nat.le_of_ble_eq_true rfl) ?_
    rintro _ w42 ⟨rfl, hA43⟩
    have C := hB.1 1 (by omega)
    have RT := hB.2.2.1 1 (by omega)
    show Ω 1 (w42 ++ (v ++ [])) [(4, .int (mI ((bu K.1 p (sA K.1)).1))), (0, .ref (α 0)), (1, .ref (β 0)), (2, .int (nI p)), (3, .int (nI a))] [.int (-9999003)] 26
    refine r_readS (rest := []) C (c_L_thrown (x := (-9999003)) ) lk_L_thrown w_4_236 [] dL_study_26 rfl rfl rfl ⟨by decide, by decide⟩ (Nat.le_of_ble_eq_true rfl) (st' := [.int (bP (thr (-9999003)))]) rfl ?_
    refine r_if_eqF C (y := 0) (tgt := 51) dL_study_29 (by decide) (fun z => ((fun z => z (Or.inr (Or.inr rfl))) : ¬ (¬ (thr (-9999003)))) (z_eqB.mp z)) ?_
    refine r_aload_n C (i := 1) 2 dL_study_32 rfl rfl ?_
    refine r_bipush C dL_study_33 kb_13 ?_
    refine r_iload_n C (i := 2) 3 dL_study_35 rfl rfl ?_
    refine r_iload_n C (i := 3) 4 dL_study_36 rfl rfl ?_
    refine r_iconst C dL_study_37 ki_0 ?_
    refine Ca.at hB.2.2.2 hB.2.1 (j := 1) (K := 1) (rest := []) (pre := w42) (suf := []) (by omega) (cl_study_nc hst hQ (a := a) (p := p) (hp := (by omega)) (ha := (by omega)) (hx := (fun z => (bu_inv (σ := K.1) p (sA K.1)).1 h14 a ha ⟨hp, ha, z.1, z.2⟩))).l lk_L_call w_2_41 dL_study_38 rfl ⟨by decide, by decide⟩ (Nat.le_of_ble_eq_true rfl) ?_
    rintro _ w44 ⟨rfl, hA45⟩
    have C := hB.1 2 (by omega)
    have RT := hB.2.2.1 2 (by omega)
    show Ω 2 (w42 ++ (w44 ++ [])) [(4, .int (mI ((bu K.1 p (sA K.1)).1))), (0, .ref (α 0)), (1, .ref (β 0)), (2, .int (nI p)), (3, .int (nI a))] [.int (-9999003)] 41
    refine r_readS (rest := []) C (c_L_thrown (x := (-9999003)) ) lk_L_thrown w_4_236 [] dL_study_41 rfl rfl rfl ⟨by decide, by decide⟩ (Nat.le_of_ble_eq_true rfl) (st' := [.int (bP (thr (-9999003)))]) rfl ?_
    refine r_if_eqF C (y := 0) (tgt := 51) dL_study_44 (by decide) (fun z => ((fun z => z (Or.inr (Or.inr rfl))) : ¬ (¬ (thr (-9999003)))) (z_eqB.mp z)) ?_
    refine r_iconst C dL_study_47 ki_1 ?_
    refine r_goto C 52 dL_study_48 (by decide) ?_
    exact RT.1 _ _ _ _ _ dL_study_52 rfl nar_1 (⟨K, _, _, rfl, rfl, hG, rfl, hA43, hA45⟩) (fst2 hA43 hA hA45 hQ)
