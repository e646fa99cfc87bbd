set_option maxRecDepth 100000 in
set_option maxHeartbeats 8000000 in
theorem n_law {l : Launch} {E : Ev} (hst : l.stackTraces = false) {b : Nat} {Ω : Nat → Om} (hB : Lb l E b Ω) {α β : Nat → Nat} {w v : va_W} (hA : Ark E α K00 w) (hQ : Ark E β K00 v) : Ω 0 (w ++ (v ++ [])) [(2, .ref (β 0)), (1, .ref (α 0)), (0, .ref b)] [] 16 := by
  have C := hB.1 0 (by omega)
  show Ω 0 (w ++ (v ++ [])) [(2, .ref (β 0)), (1, .ref (α 0)), (0, .ref b)] [] 16
  refine r_aload_n C (i := 0) 2 dL_law_16 rfl rfl ?_
  refine r_iconst C dL_law_17 ki_0 ?_
  refine hB.2.2.2.2.1 0 0 _ _ [] _ _ (by omega) (by omega) w_4_231 dL_law_18 (Nat.le_of_ble_eq_true rfl) (fun f0 hf0 => ?_)
  show Ω 0 (w ++ (v ++ [])) [(2, .ref (β 0)), (1, .ref (α 0)), (0, .ref b)] [.int (nI f0)] 21
  refine r_istore_n C (lv' := [(3, .int (nI f0)), (2, .ref (β 0)), (1, .ref (α 0)), (0, .ref b)]) dL_law_21 rfl (by decide) rfl ?_
  refine r_aload_n C (i := 1) 2 dL_law_22 rfl rfl ?_
  refine r_bipush C dL_law_23 kb_11 ?_
  refine r_iconst C dL_law_25 ki_0 ?_
  refine r_iconst C dL_law_26 ki_0 ?_
  refine r_iconst C dL_law_27 ki_0 ?_
  refine Ca.at hB.2.2.2.1 hB.2.1 (j := 0) (K := 0) (rest := []) (pre := []) (suf := v ++ []) (by omega) (cl_part hst hA  (hq := (by decide))).l lk_L_call w_2_41 dL_law_28 rfl ⟨by decide, by decide⟩ (Nat.le_of_ble_eq_true rfl) ?_
  rintro _ w1 ⟨rfl, hA2⟩
  replace hA2 : Ark E α (kDo K00 (oPart K00.1)) w1 := hA2
  show Ω 0 (w1 ++ (v ++ [])) [(3, .int (nI f0)), (2, .ref (β 0)), (1, .ref (α 0)), (0, .ref b)] [.int (nI (sP K00.1))] 31
  refine r_if_neF C (y := 0) (tgt := 50) dL_law_31 (by decide) (fun z => ((fun z => z nI_0) : ¬ (nI (sP K00.1) ≠ 0)) (Iff.rfl.mp z)) ?_
  refine r_aload_n C (i := 2) 1 dL_law_34 rfl rfl ?_
  refine r_bipush C dL_law_35 kb_11 ?_
  refine r_iconst C dL_law_37 ki_0 ?_
  refine r_iconst C dL_law_38 ki_0 ?_
  refine r_iconst C dL_law_39 ki_0 ?_
  refine Ca.at hB.2.2.2.1 hB.2.1 (j := 0) (K := 0) (rest := []) (pre := w1) (suf := []) (by omega) (cl_part hst hQ  (hq := (by decide))).l lk_L_call w_2_41 dL_law_40 rfl ⟨by decide, by decide⟩ (Nat.le_of_ble_eq_true rfl) ?_
  rintro _ w3 ⟨rfl, hA4⟩
  replace hA4 : Ark E β (kDo K00 (oPart K00.1)) w3 := hA4
  show Ω 0 (w1 ++ (w3 ++ [])) [(3, .int (nI f0)), (2, .ref (β 0)), (1, .ref (α 0)), (0, .ref b)] [.int (nI (sP K00.1))] 43
  refine r_if_neF C (y := 0) (tgt := 50) dL_law_43 (by decide) (fun z => ((fun z => z nI_0) : ¬ (nI (sP K00.1) ≠ 0)) (Iff.rfl.mp z)) ?_
  refine r_iconst C dL_law_46 ki_1 ?_
  refine r_goto C 51 dL_law_47 (by decide) ?_
  refine r_istore C (lv' := [(4, .int (nI 1)), (3, .int (nI f0)), (2, .ref (β 0)), (1, .ref (α 0)), (0, .ref b)]) dL_law_51 (by decide) rfl ?_
  refine r_iconst C dL_law_53 ki_0 ?_
  refine r_istore C (lv' := [(5, .int (nI 0)), (4, .int (nI 1)), (3, .int (nI f0)), (2, .ref (β 0)), (1, .ref (α 0)), (0, .ref b)]) dL_law_54 (by decide) rfl ?_
  refine r_iload C (i := 5) 0 dL_law_56 rfl ?_
  refine r_iconst C dL_law_58 ki_2 ?_
  refine r_icmp_geF C (tgt := 130) dL_law_59 (by decide) (fun z => ((by decide) : ¬ (2 ≤ 0)) ((c_leNN (by omega) (by omega)).mp z)) ?_
  refine r_iload C (i := 4) 1 dL_law_62 rfl ?_
  refine r_if_eqF C (y := 0) (tgt := 130) dL_law_64 (by decide) (fun z => ((by decide) : ¬ (1 = 0)) ((z_eqN (by omega)).mp z)) ?_
  refine r_aload_n C (i := 1) 4 dL_law_67 rfl rfl ?_
  refine r_bipush C dL_law_68 kb_10 ?_
  refine r_iload_n C (i := 3) 2 dL_law_70 rfl rfl ?_
  refine r_bipush C dL_law_71 kb_10 ?_
  refine r_irem (v := nI (f0 % 10)) C dL_law_73 (v_nz (by omega) (by omega)) (v_rem (by omega) (by omega) (by omega)) ?_
  refine r_iconst C dL_law_74 ki_3 ?_
  refine r_iload C (i := 5) 0 dL_law_75 rfl ?_
  refine r_imul (v := nI 0) C dL_law_77 (pk_mul _ _) ?_
  refine r_iadd (v := nI ((f0 % 10) + 0)) C dL_law_78 (nI_add _ _) ?_
  refine r_bipush C dL_law_79 kb_10 ?_
  refine r_irem (v := nI (((f0 % 10) + 0) % 10)) C dL_law_81 (v_nz (by omega) (by omega)) (v_rem (by omega) (by omega) (by omega)) ?_
  refine r_iconst C dL_law_82 ki_0 ?_
  refine r_iconst C dL_law_83 ki_0 ?_
  refine Ca.at hB.2.2.2.1 hB.2.1 (j := 0) (K := 0) (rest := []) (pre := []) (suf := w3 ++ []) (by omega) (cl_hire hst hA2 (k := ((f0 % 10) + 0) % 10) (hk := (by omega)) (hq := (Nat.le_of_ble_eq_true rfl))).l lk_L_call w_2_41 dL_law_84 rfl ⟨by decide, by decide⟩ (Nat.le_of_ble_eq_true rfl) ?_
  rintro _ w5 ⟨rfl, hA6⟩
  replace hA6 : Ark E α (kDo (kDo K00 (oPart K00.1)) (oHire ((kDo K00 (oPart K00.1)).1) (((f0 % 10) + 0) % 10))) w5 := hA6
  show Ω 0 (w5 ++ (w3 ++ [])) [(5, .int (nI 0)), (4, .int (nI 1)), (3, .int (nI f0)), (2, .ref (β 0)), (1, .ref (α 0)), (0, .ref b)] [.int (nI (sA ((kDo K00 (oPart K00.1)).1)))] 87
  refine r_iload C (i := 5) 0 dL_law_87 rfl ?_
  refine r_icmp_neF C (tgt := 121) dL_law_89 (by decide) (fun z => ((fun z => z rfl) : ¬ (nI (sA ((kDo K00 (oPart K00.1)).1)) ≠ nI 0)) (Iff.rfl.mp z)) ?_
  refine r_aload_n C (i := 2) 3 dL_law_92 rfl rfl ?_
  refine r_bipush C dL_law_93 kb_10 ?_
  refine r_iload_n C (i := 3) 2 dL_law_95 rfl rfl ?_
  refine r_bipush C dL_law_96 kb_10 ?_
  refine r_irem (v := nI (f0 % 10)) C dL_law_98 (v_nz (by omega) (by omega)) (v_rem (by omega) (by omega) (by omega)) ?_
  refine r_iconst C dL_law_99 ki_3 ?_
  refine r_iload C (i := 5) 0 dL_law_100 rfl ?_
  refine r_imul (v := nI 0) C dL_law_102 (pk_mul _ _) ?_
  refine r_iadd (v := nI ((f0 % 10) + 0)) C dL_law_103 (nI_add _ _) ?_
  refine r_bipush C dL_law_104 kb_10 ?_
  refine r_irem (v := nI (((f0 % 10) + 0) % 10)) C dL_law_106 (v_nz (by omega) (by omega)) (v_rem (by omega) (by omega) (by omega)) ?_
  refine r_iconst C dL_law_107 ki_0 ?_
  refine r_iconst C dL_law_108 ki_0 ?_
  refine Ca.at hB.2.2.2.1 hB.2.1 (j := 0) (K := 0) (rest := []) (pre := w5) (suf := []) (by omega) (cl_hire hst hA4 (k := ((f0 % 10) + 0) % 10) (hk := (by omega)) (hq := (Nat.le_of_ble_eq_true rfl))).l lk_L_call w_2_41 dL_law_109 rfl ⟨by decide, by decide⟩ (Nat.le_of_ble_eq_true rfl) ?_
  rintro _ w7 ⟨rfl, hA8⟩
  replace hA8 : Ark E β (kDo (kDo K00 (oPart K00.1)) (oHire ((kDo K00 (oPart K00.1)).1) (((f0 % 10) + 0) % 10))) w7 := hA8
  show Ω 0 (w5 ++ (w7 ++ [])) [(5, .int (nI 0)), (4, .int (nI 1)), (3, .int (nI f0)), (2, .ref (β 0)), (1, .ref (α 0)), (0, .ref b)] [.int (nI (sA ((kDo K00 (oPart K00.1)).1)))] 112
  refine r_iload C (i := 5) 0 dL_law_112 rfl ?_
  refine r_icmp_neF C (tgt := 121) dL_law_114 (by decide) (fun z => ((fun z => z rfl) : ¬ (nI (sA ((kDo K00 (oPart K00.1)).1)) ≠ nI 0)) (Iff.rfl.mp z)) ?_
  refine r_iconst C dL_law_117 ki_1 ?_
  refine r_goto C 122 dL_law_118 (by decide) ?_
  refine r_istore C (lv' := [(4, .int (nI 1)), (5, .int (nI 0)), (3, .int (nI f0)), (2, .ref (β 0)), (1, .ref (α 0)), (0, .ref b)]) dL_law_122 (by decide) rfl ?_
  refine r_iinc C (lv' := [(5, .int (nI 1)), (4, .int (nI 1)), (3, .int (nI f0)), (2, .ref (β 0)), (1, .ref (α 0)), (0, .ref b)]) (v := nI 1) 1 dL_law_124 rfl (v_inc _) (by decide) rfl ?_
  refine r_goto C 56 dL_law_127 (by decide) ?_
  refine r_iload C (i := 5) 0 dL_law_56 rfl ?_
  refine r_iconst C dL_law_58 ki_2 ?_
  refine r_icmp_geF C (tgt := 130) dL_law_59 (by decide) (fun z => ((by decide) : ¬ (2 ≤ 1)) ((c_leNN (by omega) (by omega)).mp z)) ?_
  refine r_iload C (i := 4) 1 dL_law_62 rfl ?_
  refine r_if_eqF C (y := 0) (tgt := 130) dL_law_64 (by decide) (fun z => ((by decide) : ¬ (1 = 0)) ((z_eqN (by omega)).mp z)) ?_
  refine r_aload_n C (i := 1) 4 dL_law_67 rfl rfl ?_
  refine r_bipush C dL_law_68 kb_10 ?_
  refine r_iload_n C (i := 3) 2 dL_law_70 rfl rfl ?_
  refine r_bipush C dL_law_71 kb_10 ?_
  refine r_irem (v := nI (f0 % 10)) C dL_law_73 (v_nz (by omega) (by omega)) (v_rem (by omega) (by omega) (by omega)) ?_
  refine r_iconst C dL_law_74 ki_3 ?_
  refine r_iload C (i := 5) 0 dL_law_75 rfl ?_
  refine r_imul (v := nI 3) C dL_law_77 (pk_mul _ _) ?_
  refine r_iadd (v := nI ((f0 % 10) + 3)) C dL_law_78 (nI_add _ _) ?_
  refine r_bipush C dL_law_79 kb_10 ?_
  refine r_irem (v := nI (((f0 % 10) + 3) % 10)) C dL_law_81 (v_nz (by omega) (by omega)) (v_rem (by omega) (by omega) (by omega)) ?_
  refine r_iconst C dL_law_82 ki_0 ?_
  refine r_iconst C dL_law_83 ki_0 ?_
  refine Ca.at hB.2.2.2.1 hB.2.1 (j := 0) (K := 0) (rest := []) (pre := []) (suf := w7 ++ []) (by omega) (cl_hire hst hA6 (k := ((f0 % 10) + 3) % 10) (hk := (by omega)) (hq := (Nat.le_of_ble_eq_true rfl))).l lk_L_call w_2_41 dL_law_84 rfl ⟨by decide, by decide⟩ (Nat.le_of_ble_eq_true rfl) ?_
  rintro _ w9 ⟨rfl, hA10⟩
  replace hA10 : Ark E α (kDo (kDo (kDo K00 (oPart K00.1)) (oHire ((kDo K00 (oPart K00.1)).1) (((f0 % 10) + 0) % 10))) (oHire ((kDo (kDo K00 (oPart K00.1)) (oHire ((kDo K00 (oPart K00.1)).1) (((f0 % 10) + 0) % 10))).1) (((f0 % 10) + 3) % 10))) w9 := hA10
  show Ω 0 (w9 ++ (w7 ++ [])) [(5, .int (nI 1)), (4, .int (nI 1)), (3, .int (nI f0)), (2, .ref (β 0)), (1, .ref (α 0)), (0, .ref b)] [.int (nI (sA ((kDo (kDo K00 (oPart K00.1)) (oHire ((kDo K00 (oPart K00.1)).1) (((f0 % 10) + 0) % 10))).1)))] 87
  refine r_iload C (i := 5) 0 dL_law_87 rfl ?_
  refine r_icmp_neF C (tgt := 121) dL_law_89 (by decide) (fun z => ((fun z => z rfl) : ¬ (nI (sA ((kDo (kDo K00 (oPart K00.1)) (oHire ((kDo K00 (oPart K00.1)).1) (((f0 % 10) + 0) % 10))).1)) ≠ nI 1)) (Iff.rfl.mp z)) ?_
  refine r_aload_n C (i := 2) 3 dL_law_92 rfl rfl ?_
  refine r_bipush C dL_law_93 kb_10 ?_
  refine r_iload_n C (i := 3) 2 dL_law_95 rfl rfl ?_
  refine r_bipush C dL_law_96 kb_10 ?_
  refine r_irem (v := nI (f0 % 10)) C dL_law_98 (v_nz (by omega) (by omega)) (v_rem (by omega) (by omega) (by omega)) ?_
  refine r_iconst C dL_law_99 ki_3 ?_
  refine r_iload C (i := 5) 0 dL_law_100 rfl ?_
  refine r_imul (v := nI 3) C dL_law_102 (pk_mul _ _) ?_
  refine r_iadd (v := nI ((f0 % 10) + 3)) C dL_law_103 (nI_add _ _) ?_
  refine r_bipush C dL_law_104 kb_10 ?_
  refine r_irem (v := nI (((f0 % 10) + 3) % 10)) C dL_law_106 (v_nz (by omega) (by omega)) (v_rem (by omega) (by omega) (by omega)) ?_
  refine r_iconst C dL_law_107 ki_0 ?_
  refine r_iconst C dL_law_108 ki_0 ?_
  refine Ca.at hB.2.2.2.1 hB.2.1 (j := 0) (K := 0) (rest := []) (pre := w9) (suf := []) (by omega) (cl_hire hst hA8 (k := ((f0 % 10) + 3) % 10) (hk := (by omega)) (hq := (Nat.le_of_ble_eq_true rfl))).l lk_L_call w_2_41 dL_law_109 rfl ⟨by decide, by decide⟩ (Nat.le_of_ble_eq_true rfl) ?_
  rintro _ w11 ⟨rfl, hA12⟩
  replace hA12 : Ark E β (kDo (kDo (kDo K00 (oPart K00.1)) (oHire ((kDo K00 (oPart K00.1)).1) (((f0 % 10) + 0) % 10))) (oHire ((kDo (kDo K00 (oPart K00.1)) (oHire ((kDo K00 (oPart K00.1)).1) (((f0 % 10) + 0) % 10))).1) (((f0 % 10) + 3) % 10))) w11 := hA12
  show Ω 0 (w9 ++ (w11 ++ [])) [(5, .int (nI 1)), (4, .int (nI 1)), (3, .int (nI f0)), (2, .ref (β 0)), (1, .ref (α 0)), (0, .ref b)] [.int (nI (sA ((kDo (kDo K00 (oPart K00.1)) (oHire ((kDo K00 (oPart K00.1)).1) (((f0 % 10) + 0) % 10))).1)))] 112
  refine r_iload C (i := 5) 0 dL_law_112 rfl ?_
  refine r_icmp_neF C (tgt := 121) dL_law_114 (by decide) (fun z => ((fun z => z rfl) : ¬ (nI (sA ((kDo (kDo K00 (oPart K00.1)) (oHire ((kDo K00 (oPart K00.1)).1) (((f0 % 10) + 0) % 10))).1)) ≠ nI 1)) (Iff.rfl.mp z)) ?_
  refine r_iconst C dL_law_117 ki_1 ?_
  refine r_goto C 122 dL_law_118 (by decide) ?_
  refine r_istore C (lv' := [(4, .int (nI 1)), (5, .int (nI 1)), (3, .int (nI f0)), (2, .ref (β 0)), (1, .ref (α 0)), (0, .ref b)]) dL_law_122 (by decide) rfl ?_
  refine r_iinc C (lv' := [(5, .int (nI 2)), (4, .int (nI 1)), (3, .int (nI f0)), (2, .ref (β 0)), (1, .ref (α 0)), (0, .ref b)]) (v := nI 2) 1 dL_law_124 rfl (v_inc _) (by decide) rfl ?_
  refine r_goto C 56 dL_law_127 (by decide) ?_
  refine r_iload C (i := 5) 0 dL_law_56 rfl ?_
  refine r_iconst C dL_law_58 ki_2 ?_
  refine r_icmp_geT C 130 dL_law_59 (by decide) ((c_leNN (by omega) (by omega)).mpr (by decide)) ?_
  have hG0 : Gk (kDo (kDo (kDo K00 (oPart K00.1)) (oHire ((kDo K00 (oPart K00.1)).1) (((f0 % 10) + 0) % 10))) (oHire ((kDo (kDo K00 (oPart K00.1)) (oHire ((kDo K00 (oPart K00.1)).1) (((f0 % 10) + 0) % 10))).1) (((f0 % 10) + 3) % 10))) := Gk_00 _ _
  refine r_bipush C dL_law_130 kb_8 ?_
  refine r_aload_n C (i := 0) 5 dL_law_132 rfl rfl ?_
  refine r_iconst C dL_law_133 ki_1 ?_
  refine hB.2.2.2.2.1 0 1 _ _ [.int (nI 8)] _ _ (by omega) (by omega) w_4_231 dL_law_134 (Nat.le_of_ble_eq_true rfl) (fun t1 ht1 => ?_)
  show Ω 0 (w9 ++ (w11 ++ [])) [(5, .int (nI 2)), (4, .int (nI 1)), (3, .int (nI f0)), (2, .ref (β 0)), (1, .ref (α 0)), (0, .ref b)] [.int (nI t1), .int (nI 8)] 137
  refine r_bipush C dL_law_137 kb_17 ?_
  refine r_irem (v := nI (t1 % 17)) C dL_law_139 (v_nz (by omega) (by omega)) (v_rem (by omega) (by omega) (by omega)) ?_
  refine r_iadd (v := nI (8 + (t1 % 17))) C dL_law_140 (nI_add _ _) ?_
  refine r_istore C (lv' := [(5, .int (nI (8 + (t1 % 17)))), (4, .int (nI 1)), (3, .int (nI f0)), (2, .ref (β 0)), (1, .ref (α 0)), (0, .ref b)]) dL_law_141 (by decide) rfl ?_
  refine r_iconst C dL_law_143 ki_0 ?_
  refine r_istore C (lv' := [(6, .int (nI 0)), (5, .int (nI (8 + (t1 % 17)))), (4, .int (nI 1)), (3, .int (nI f0)), (2, .ref (β 0)), (1, .ref (α 0)), (0, .ref b)]) dL_law_144 (by decide) rfl ?_
  have loop146_14 : ∀ (dd9 : Nat) (Kc : Kt) (i : Nat) (jj : Nat) (wL130 : va_W) (wL131 : va_W), 8 + t1 % 17 - i < dd9 → (i ≤ 8 + t1 % 17) → (jj ≤ 243 * i) → (Gk Kc) → (Ark E α Kc wL130) → (Ark E β Kc wL131) → Ω jj (wL130 ++ (wL131 ++ [])) [(6, .int (nI i)), (5, .int (nI (8 + (t1 % 17)))), (4, .int (nI 1)), (3, .int (nI f0)), (2, .ref (β 0)), (1, .ref (α 0)), (0, .ref b)] [] 146 := by
    intro dd9
    induction dd9 with
    | zero => intro Kc i jj wL130 wL131 hd; exact absurd hd (Nat.not_lt_zero _)
    | succ dd9 ih15 =>
      intro Kc i jj wL130 wL131 hd hi hjj hG hAL130 hAL131
      have C := hB.1 (jj) (by omega)
      refine r_iload C (i := 6) 0 dL_law_146 rfl ?_
      refine r_iload C (i := 5) 1 dL_law_148 rfl ?_
      refine r_icmp_ge C (c9 := 8 + (t1 % 17) ≤ i) 648 dL_law_150 (by decide) (c_leNN (by omega) (by omega)) (fun h150_16 => ?_) (fun h150_16 => ?_)
      · refine r_iload C (i := 4) 2 dL_law_648 rfl ?_
        exact hB.2.2.1 _ _ _ _ (by omega) dL_law_650
      · have hg1 : 1 ≤ sP Kc.1 := hG.1.1
        have hg2 : 2 ≤ sA Kc.1 := hG.1.2
        have hi9 : i < 25 := by omega
        refine r_iload C (i := 4) 2 dL_law_153 rfl ?_
        refine r_if_eqF C (y := 0) (tgt := 648) dL_law_155 (by decide) (fun z => ((by decide) : ¬ (1 = 0)) ((z_eqN (by omega)).mp z)) ?_
        refine r_aload_n C (i := 0) 6 dL_law_158 rfl rfl ?_
        refine r_iconst C dL_law_159 ki_2 ?_
        refine r_iload C (i := 6) 0 dL_law_160 rfl ?_
        refine r_iadd (v := nI (2 + i)) C dL_law_162 (nI_add _ _) ?_
        refine hB.2.2.2.2.1 jj (2 + i) _ _ [] _ _ (by omega) (by omega) w_4_231 dL_law_163 (Nat.le_of_ble_eq_true rfl) (fun x hx => ?_)
        show Ω jj (wL130 ++ (wL131 ++ [])) [(6, .int (nI i)), (5, .int (nI (8 + (t1 % 17)))), (4, .int (nI 1)), (3, .int (nI f0)), (2, .ref (β 0)), (1, .ref (α 0)), (0, .ref b)] [.int (nI x)] 166
        refine r_istore C (lv' := [(7, .int (nI x)), (6, .int (nI i)), (5, .int (nI (8 + (t1 % 17)))), (4, .int (nI 1)), (3, .int (nI f0)), (2, .ref (β 0)), (1, .ref (α 0)), (0, .ref b)]) dL_law_166 (by decide) rfl ?_
        refine r_aload_n C (i := 1) 6 dL_law_168 rfl rfl ?_
        refine r_iload C (i := 7) 0 dL_law_169 rfl ?_
        refine Ca.at hB.2.2.2.1 hB.2.1 (j := jj) (K := 1) (rest := []) (pre := []) (suf := wL131 ++ []) (by omega) (n_act hst hAL130 (x := x) (h1 := hg1) (h2 := hg2) (hx := (by omega))).l lk_L_act w_5_59 dL_law_171 rfl ⟨by decide, by decide⟩ (Nat.le_of_ble_eq_true rfl) ?_
        rintro _ w17 ⟨rfl, hA18⟩
        have C := hB.1 (jj + 1) (by omega)
        show Ω (jj + 1) (w17 ++ (wL131 ++ [])) [(7, .int (nI x)), (6, .int (nI i)), (5, .int (nI (8 + (t1 % 17)))), (4, .int (nI 1)), (3, .int (nI f0)), (2, .ref (β 0)), (1, .ref (α 0)), (0, .ref b)] [.int ((actR Kc x).1)] 174
        refine r_istore C (lv' := [(8, .int ((actR Kc x).1)), (7, .int (nI x)), (6, .int (nI i)), (5, .int (nI (8 + (t1 % 17)))), (4, .int (nI 1)), (3, .int (nI f0)), (2, .ref (β 0)), (1, .ref (α 0)), (0, .ref b)]) dL_law_174 (by decide) rfl ?_
        refine r_aload_n C (i := 2) 6 dL_law_176 rfl rfl ?_
        refine r_iload C (i := 7) 1 dL_law_177 rfl ?_
        refine r_ldc (v := nI 100000) C dL_law_179 w_5_72 ?_
        refine r_irem (v := nI (x % 100000)) C dL_law_181 (v_nz (by omega) (by omega)) (v_rem (by omega) (by omega) (by omega)) ?_
        refine Ca.at hB.2.2.2.1 hB.2.1 (j := jj + 1) (K := 39) (rest := []) (pre := w17) (suf := []) (by omega) (n_refuses hst hAL131 (x := x % 100000) (h1 := (by omega)) (h2 := (by omega)) (hx := (by omega))).l lk_L_refuses w_4_239 dL_law_182 rfl ⟨by decide, by decide⟩ (Nat.le_of_ble_eq_true rfl) ?_
        rintro _ w19 ⟨rfl, hA20⟩
        have C := hB.1 (jj + 1 + 39) (by omega)
        show Ω (jj + 1 + 39) (w17 ++ (w19 ++ [])) [(8, .int ((actR Kc x).1)), (7, .int (nI x)), (6, .int (nI i)), (5, .int (nI (8 + (t1 % 17)))), (4, .int (nI 1)), (3, .int (nI f0)), (2, .ref (β 0)), (1, .ref (α 0)), (0, .ref b)] [.int (nI 1)] 185
        refine r_if_eqF C (y := 0) (tgt := 262) dL_law_185 (by decide) (fun z => ((by decide) : ¬ (1 = 0)) ((z_eqN (by omega)).mp z)) ?_
        refine r_aload_n C (i := 2) 6 dL_law_188 rfl rfl ?_
        refine r_iload C (i := 7) 1 dL_law_189 rfl ?_
        refine Ca.at hB.2.2.2.1 hB.2.1 (j := jj + 1 + 39) (K := 1) (rest := []) (pre := w17) (suf := []) (by omega) (n_act hst hA20 (x := x) (h1 := hg1) (h2 := hg2) (hx := (by omega))).l lk_L_act w_5_59 dL_law_191 rfl ⟨by decide, by decide⟩ (Nat.le_of_ble_eq_true rfl) ?_
        rintro _ w21 ⟨rfl, hA22⟩
        have C := hB.1 (jj + 1 + 39 + 1) (by omega)
        show Ω (jj + 1 + 39 + 1) (w17 ++ (w21 ++ [])) [(8, .int ((actR Kc x).1)), (7, .int (nI x)), (6, .int (nI i)), (5, .int (nI (8 + (t1 % 17)))), (4, .int (nI 1)), (3, .int (nI f0)), (2, .ref (β 0)), (1, .ref (α 0)), (0, .ref b)] [.int ((actR Kc x).1)] 194
        refine r_iload C (i := 8) 0 dL_law_194 rfl ?_
        refine r_icmp_neF C (tgt := 262) dL_law_196 (by decide) (fun z => ((fun z => z rfl) : ¬ (((actR Kc x).1 : Int32) ≠ (actR Kc x).1)) (Iff.rfl.mp z)) ?_
        obtain ⟨K1, hK1⟩ : ∃ K1 : Kt, K1 = ((actR Kc x).2) := ⟨_, rfl⟩
        have hA9K1 : Ark E α ((actR Kc x).2) w17 := hA18
        have hQ9K1 : Ark E β ((actR Kc x).2) w21 := hA22
        rw [← hK1] at hA9K1 hQ9K1
        have hG1 : Gk K1 := by rw [hK1]; exact Gk_act hG x
        have hg11 : 1 ≤ sP K1.1 := hG1.1.1
        have hg12 : 2 ≤ sA K1.1 := hG1.1.2
        have hW1 := hA9K1.W
        have hwP1 := hW1.P
        have hwA1 := hW1.A
        have htl1 := tkS_le hW1 (Nat.le_refl 20)
        refine r_aload_n C (i := 2) 6 dL_law_199 rfl rfl ?_
        refine r_iload C (i := 7) 1 dL_law_200 rfl ?_
        refine r_sipush C dL_law_202 ks_1000 ?_
        refine r_irem (v := nI (x % 1000)) C dL_law_205 (v_nz (by omega) (by omega)) (v_rem (by omega) (by omega) (by omega)) ?_
        refine Ca.at hB.2.2.2.1 hB.2.1 (j := jj + 1 + 39 + 1) (K := 39) (rest := []) (pre := w17) (suf := []) (by omega) (n_refuses hst hQ9K1 (x := x % 1000) (h1 := (by omega)) (h2 := (by omega)) (hx := (by omega))).l lk_L_refuses w_4_239 dL_law_206 rfl ⟨by decide, by decide⟩ (Nat.le_of_ble_eq_true rfl) ?_
        rintro _ w23 ⟨rfl, hA24⟩
        have C := hB.1 (jj + 1 + 39 + 1 + 39) (by omega)
        show Ω (jj + 1 + 39 + 1 + 39) (w17 ++ (w23 ++ [])) [(8, .int ((actR Kc x).1)), (7, .int (nI x)), (6, .int (nI i)), (5, .int (nI (8 + (t1 % 17)))), (4, .int (nI 1)), (3, .int (nI f0)), (2, .ref (β 0)), (1, .ref (α 0)), (0, .ref b)] [.int (nI 1)] 209
        refine r_if_eqF C (y := 0) (tgt := 262) dL_law_209 (by decide) (fun z => ((by decide) : ¬ (1 = 0)) ((z_eqN (by omega)).mp z)) ?_
        refine r_aload_n C (i := 1) 7 dL_law_212 rfl rfl ?_
        refine r_aload_n C (i := 2) 6 dL_law_213 rfl rfl ?_
        refine r_iload C (i := 7) 1 dL_law_214 rfl ?_
        refine r_sipush C dL_law_216 ks_5000 ?_
        refine r_irem (v := nI (x % 5000)) C dL_law_219 (v_nz (by omega) (by omega)) (v_rem (by omega) (by omega) (by omega)) ?_
        refine Ca.both hB.2.2.2.1 hB.2.1 (j := jj + 1 + 39 + 1 + 39) (K := 160) (rest := []) (suf := []) (by omega) (n_alike hst hA9K1 hA24 (x := x % 5000) (hx := (by omega))).l lk_L_alike w_5_62 dL_law_220 rfl ⟨by decide, by decide⟩ (Nat.le_of_ble_eq_true rfl) ?_
        rintro _ _ ⟨w25, w27, rfl, rfl, hA26, hA28⟩
        refine ⟨w25, w27, rfl, ?_⟩
        have C := hB.1 (jj + 1 + 39 + 1 + 39 + 160) (by omega)
        show Ω (jj + 1 + 39 + 1 + 39 + 160) (w25 ++ (w27 ++ [])) [(8, .int ((actR Kc x).1)), (7, .int (nI x)), (6, .int (nI i)), (5, .int (nI (8 + (t1 % 17)))), (4, .int (nI 1)), (3, .int (nI f0)), (2, .ref (β 0)), (1, .ref (α 0)), (0, .ref b)] [.int (nI 1)] 223
        refine r_if_eqF C (y := 0) (tgt := 262) dL_law_223 (by decide) (fun z => ((by decide) : ¬ (1 = 0)) ((z_eqN (by omega)).mp z)) ?_
        have join258_29 : ∀ (wJ258_0 : va_W) (wJ258_1 : va_W), (Ark E α K1 wJ258_0) → (Ark E β K1 wJ258_1) → Ω (jj + 1 + 39 + 1 + 39 + 160) (wJ258_0 ++ (wJ258_1 ++ [])) [(8, .int ((actR Kc x).1)), (7, .int (nI x)), (6, .int (nI i)), (5, .int (nI (8 + (t1 % 17)))), (4, .int (nI 1)), (3, .int (nI f0)), (2, .ref (β 0)), (1, .ref (α 0)), (0, .ref b)] [] 258 := by
          intro wJ258_0 wJ258_1 hJ258_0 hJ258_1
          refine r_iconst C dL_law_258 ki_1 ?_
          refine r_goto C 263 dL_law_259 (by decide) ?_
          refine r_istore C (lv' := [(4, .int (nI 1)), (8, .int ((actR Kc x).1)), (7, .int (nI x)), (6, .int (nI i)), (5, .int (nI (8 + (t1 % 17)))), (3, .int (nI f0)), (2, .ref (β 0)), (1, .ref (α 0)), (0, .ref b)]) dL_law_263 (by decide) rfl ?_
          refine r_iload C (i := 7) 2 dL_law_265 rfl ?_
          refine r_bipush C dL_law_267 kb_7 ?_
          refine r_idiv (v := nI (x / 7)) C dL_law_269 (v_nz (by omega) (by omega)) (v_div (by omega) (by omega) (by omega)) ?_
          refine r_aload_n C (i := 1) 7 dL_law_270 rfl rfl ?_
          refine r_iconst C dL_law_271 ki_2 ?_
          refine r_iconst C dL_law_272 ki_1 ?_
          refine r_iconst C dL_law_273 ki_0 ?_
          refine r_iconst C dL_law_274 ki_0 ?_
          refine Ca.at hB.2.2.2.1 hB.2.1 (j := jj + 1 + 39 + 1 + 39 + 160) (K := 0) (rest := [.int (nI (x / 7))]) (pre := []) (suf := wJ258_1 ++ []) (by omega) (cl_about_1 hst hJ258_0  ).l lk_L_call w_2_41 dL_law_275 rfl ⟨by decide, by decide⟩ (Nat.le_of_ble_eq_true rfl) ?_
          rintro _ w30 ⟨rfl, hA31⟩
          show Ω (jj + 1 + 39 + 1 + 39 + 160) (w30 ++ (wJ258_1 ++ [])) [(4, .int (nI 1)), (8, .int ((actR Kc x).1)), (7, .int (nI x)), (6, .int (nI i)), (5, .int (nI (8 + (t1 % 17)))), (3, .int (nI f0)), (2, .ref (β 0)), (1, .ref (α 0)), (0, .ref b)] [.int (nI (sA K1.1)), .int (nI (x / 7))] 278
          refine r_irem (v := nI ((x / 7) % (sA K1.1))) C dL_law_278 (v_nz (by omega) (by omega)) (v_rem (by omega) (by omega) (by omega)) ?_
          obtain ⟨a, ha, hae⟩ : ∃ a, a < sA K1.1 ∧ (x / 7) % (sA K1.1) = a := ⟨_, (Nat.mod_lt _ (by omega)), rfl⟩
          refine r_st (st' := [.int (nI a)]) (by rw [hae]) ?_
          refine r_istore C (lv' := [(9, .int (nI a)), (4, .int (nI 1)), (8, .int ((actR Kc x).1)), (7, .int (nI x)), (6, .int (nI i)), (5, .int (nI (8 + (t1 % 17)))), (3, .int (nI f0)), (2, .ref (β 0)), (1, .ref (α 0)), (0, .ref b)]) dL_law_279 (by decide) rfl ?_
          refine r_iload C (i := 7) 3 dL_law_281 rfl ?_
          refine r_bipush C dL_law_283 kb_70 ?_
          refine r_idiv (v := nI (x / 70)) C dL_law_285 (v_nz (by omega) (by omega)) (v_div (by omega) (by omega) (by omega)) ?_
          refine r_bipush C dL_law_286 kb_20 ?_
          refine r_irem (v := nI ((x / 70) % 20)) C dL_law_288 (v_nz (by omega) (by omega)) (v_rem (by omega) (by omega) (by omega)) ?_
          obtain ⟨n, hn, hne⟩ : ∃ n, n < 20 ∧ (x / 70) % 20 = n := ⟨_, (Nat.mod_lt _ (by decide)), rfl⟩
          refine r_st (st' := [.int (nI n)]) (by rw [hne]) ?_
          refine r_istore C (lv' := [(10, .int (nI n)), (9, .int (nI a)), (4, .int (nI 1)), (8, .int ((actR Kc x).1)), (7, .int (nI x)), (6, .int (nI i)), (5, .int (nI (8 + (t1 % 17)))), (3, .int (nI f0)), (2, .ref (β 0)), (1, .ref (α 0)), (0, .ref b)]) dL_law_289 (by decide) rfl ?_
          refine r_aload_n C (i := 1) 9 dL_law_291 rfl rfl ?_
          refine r_bipush C dL_law_292 kb_21 ?_
          refine r_iload C (i := 9) 1 dL_law_294 rfl ?_
          refine r_iload C (i := 10) 0 dL_law_296 rfl ?_
          refine r_iconst C dL_law_298 ki_0 ?_
          refine Ca.at hB.2.2.2.1 hB.2.1 (j := jj + 1 + 39 + 1 + 39 + 160) (K := 0) (rest := []) (pre := []) (suf := wJ258_1 ++ []) (by omega) (cl_would_0 hst hA31 (a := a) (n := n) (ha := (by omega)) (hn := (by omega))).l lk_L_call w_2_41 dL_law_299 rfl ⟨by decide, by decide⟩ (Nat.le_of_ble_eq_true rfl) ?_
          rintro _ w32 ⟨rfl, hA33⟩
          show Ω (jj + 1 + 39 + 1 + 39 + 160) (w32 ++ (wJ258_1 ++ [])) [(10, .int (nI n)), (9, .int (nI a)), (4, .int (nI 1)), (8, .int ((actR Kc x).1)), (7, .int (nI x)), (6, .int (nI i)), (5, .int (nI (8 + (t1 % 17)))), (3, .int (nI f0)), (2, .ref (β 0)), (1, .ref (α 0)), (0, .ref b)] [.int (nI (chg K1.1 (oFl K1.1 a n) n))] 302
          refine r_istore C (lv' := [(11, .int (nI (chg K1.1 (oFl K1.1 a n) n))), (10, .int (nI n)), (9, .int (nI a)), (4, .int (nI 1)), (8, .int ((actR Kc x).1)), (7, .int (nI x)), (6, .int (nI i)), (5, .int (nI (8 + (t1 % 17)))), (3, .int (nI f0)), (2, .ref (β 0)), (1, .ref (α 0)), (0, .ref b)]) dL_law_302 (by decide) rfl ?_
          refine r_aload_n C (i := 1) 10 dL_law_304 rfl rfl ?_
          refine r_bipush C dL_law_305 kb_21 ?_
          refine r_iload C (i := 9) 2 dL_law_307 rfl ?_
          refine r_iload C (i := 10) 1 dL_law_309 rfl ?_
          refine r_iconst C dL_law_311 ki_1 ?_
          refine Ca.at hB.2.2.2.1 hB.2.1 (j := jj + 1 + 39 + 1 + 39 + 160) (K := 0) (rest := []) (pre := []) (suf := wJ258_1 ++ []) (by omega) (cl_would_1 hst hA33 (a := a) (n := n) (ha := (by omega)) (hn := (by omega))).l lk_L_call w_2_41 dL_law_312 rfl ⟨by decide, by decide⟩ (Nat.le_of_ble_eq_true rfl) ?_
          rintro _ w34 ⟨rfl, hA35⟩
          show Ω (jj + 1 + 39 + 1 + 39 + 160) (w34 ++ (wJ258_1 ++ [])) [(11, .int (nI (chg K1.1 (oFl K1.1 a n) n))), (10, .int (nI n)), (9, .int (nI a)), (4, .int (nI 1)), (8, .int ((actR Kc x).1)), (7, .int (nI x)), (6, .int (nI i)), (5, .int (nI (8 + (t1 % 17)))), (3, .int (nI f0)), (2, .ref (β 0)), (1, .ref (α 0)), (0, .ref b)] [.int (nI (tak (oFl K1.1 a n) n) - nI (tak K1.1 n))] 315
          refine r_istore C (lv' := [(12, .int (nI (tak (oFl K1.1 a n) n) - nI (tak K1.1 n))), (11, .int (nI (chg K1.1 (oFl K1.1 a n) n))), (10, .int (nI n)), (9, .int (nI a)), (4, .int (nI 1)), (8, .int ((actR Kc x).1)), (7, .int (nI x)), (6, .int (nI i)), (5, .int (nI (8 + (t1 % 17)))), (3, .int (nI f0)), (2, .ref (β 0)), (1, .ref (α 0)), (0, .ref b)]) dL_law_315 (by decide) rfl ?_
          refine r_aload_n C (i := 1) 11 dL_law_317 rfl rfl ?_
          refine r_iconst C dL_law_318 ki_2 ?_
          refine r_iconst C dL_law_319 ki_4 ?_
          refine r_iconst C dL_law_320 ki_0 ?_
          refine r_iconst C dL_law_321 ki_0 ?_
          refine Ca.at hB.2.2.2.1 hB.2.1 (j := jj + 1 + 39 + 1 + 39 + 160) (K := 0) (rest := []) (pre := []) (suf := wJ258_1 ++ []) (by omega) (cl_about_4 hst hA35  ).l lk_L_call w_2_41 dL_law_322 rfl ⟨by decide, by decide⟩ (Nat.le_of_ble_eq_true rfl) ?_
          rintro _ w36 ⟨rfl, hA37⟩
          show Ω (jj + 1 + 39 + 1 + 39 + 160) (w36 ++ (wJ258_1 ++ [])) [(12, .int (nI (tak (oFl K1.1 a n) n) - nI (tak K1.1 n))), (11, .int (nI (chg K1.1 (oFl K1.1 a n) n))), (10, .int (nI n)), (9, .int (nI a)), (4, .int (nI 1)), (8, .int ((actR Kc x).1)), (7, .int (nI x)), (6, .int (nI i)), (5, .int (nI (8 + (t1 % 17)))), (3, .int (nI f0)), (2, .ref (β 0)), (1, .ref (α 0)), (0, .ref b)] [.int (nI (tkS K1.1 20))] 325
          refine r_istore C (lv' := [(13, .int (nI (tkS K1.1 20))), (12, .int (nI (tak (oFl K1.1 a n) n) - nI (tak K1.1 n))), (11, .int (nI (chg K1.1 (oFl K1.1 a n) n))), (10, .int (nI n)), (9, .int (nI a)), (4, .int (nI 1)), (8, .int ((actR Kc x).1)), (7, .int (nI x)), (6, .int (nI i)), (5, .int (nI (8 + (t1 % 17)))), (3, .int (nI f0)), (2, .ref (β 0)), (1, .ref (α 0)), (0, .ref b)]) dL_law_325 (by decide) rfl ?_
          refine r_aload_n C (i := 1) 12 dL_law_327 rfl rfl ?_
          refine r_iconst C dL_law_328 ki_2 ?_
          refine r_iconst C dL_law_329 ki_0 ?_
          refine r_iconst C dL_law_330 ki_0 ?_
          refine r_iconst C dL_law_331 ki_0 ?_
          refine Ca.at hB.2.2.2.1 hB.2.1 (j := jj + 1 + 39 + 1 + 39 + 160) (K := 0) (rest := []) (pre := []) (suf := wJ258_1 ++ []) (by omega) (cl_about_0 hst hA37  ).l lk_L_call w_2_41 dL_law_332 rfl ⟨by decide, by decide⟩ (Nat.le_of_ble_eq_true rfl) ?_
          rintro _ w38 ⟨rfl, hA39⟩
          show Ω (jj + 1 + 39 + 1 + 39 + 160) (w38 ++ (wJ258_1 ++ [])) [(13, .int (nI (tkS K1.1 20))), (12, .int (nI (tak (oFl K1.1 a n) n) - nI (tak K1.1 n))), (11, .int (nI (chg K1.1 (oFl K1.1 a n) n))), (10, .int (nI n)), (9, .int (nI a)), (4, .int (nI 1)), (8, .int ((actR Kc x).1)), (7, .int (nI x)), (6, .int (nI i)), (5, .int (nI (8 + (t1 % 17)))), (3, .int (nI f0)), (2, .ref (β 0)), (1, .ref (α 0)), (0, .ref b)] [.int (nI (sP K1.1))] 335
          refine r_istore C (lv' := [(14, .int (nI (sP K1.1))), (13, .int (nI (tkS K1.1 20))), (12, .int (nI (tak (oFl K1.1 a n) n) - nI (tak K1.1 n))), (11, .int (nI (chg K1.1 (oFl K1.1 a n) n))), (10, .int (nI n)), (9, .int (nI a)), (4, .int (nI 1)), (8, .int ((actR Kc x).1)), (7, .int (nI x)), (6, .int (nI i)), (5, .int (nI (8 + (t1 % 17)))), (3, .int (nI f0)), (2, .ref (β 0)), (1, .ref (α 0)), (0, .ref b)]) dL_law_335 (by decide) rfl ?_
          refine r_bipush C dL_law_337 kb_6 ?_
          refine hB.2.2.2.2.2.1 (jj + 1 + 39 + 1 + 39 + 160) _ _ _ _ (by omega) dL_law_339 (fun qa => ?_)
          rw [List.append_assoc, List.append_assoc, List.nil_append]
          have C := hB.1 (jj + 1 + 39 + 1 + 39 + 160 + 1) (by omega)
          show Ω (jj + 1 + 39 + 1 + 39 + 160 + 1) (w38 ++ (wJ258_1 ++ [(qa, .inl (eI E, 6, .inl (fun _ => nI 0)))])) [(14, .int (nI (sP K1.1))), (13, .int (nI (tkS K1.1 20))), (12, .int (nI (tak (oFl K1.1 a n) n) - nI (tak K1.1 n))), (11, .int (nI (chg K1.1 (oFl K1.1 a n) n))), (10, .int (nI n)), (9, .int (nI a)), (4, .int (nI 1)), (8, .int ((actR Kc x).1)), (7, .int (nI x)), (6, .int (nI i)), (5, .int (nI (8 + (t1 % 17)))), (3, .int (nI f0)), (2, .ref (β 0)), (1, .ref (α 0)), (0, .ref b)] [.ref qa] 341
          refine r_astore C (lv' := [(15, .ref qa), (14, .int (nI (sP K1.1))), (13, .int (nI (tkS K1.1 20))), (12, .int (nI (tak (oFl K1.1 a n) n) - nI (tak K1.1 n))), (11, .int (nI (chg K1.1 (oFl K1.1 a n) n))), (10, .int (nI n)), (9, .int (nI a)), (4, .int (nI 1)), (8, .int ((actR Kc x).1)), (7, .int (nI x)), (6, .int (nI i)), (5, .int (nI (8 + (t1 % 17)))), (3, .int (nI f0)), (2, .ref (β 0)), (1, .ref (α 0)), (0, .ref b)]) dL_law_341 (by decide) rfl ?_
          refine r_iconst C dL_law_343 ki_0 ?_
          refine r_istore C (lv' := [(16, .int (nI 0)), (15, .ref qa), (14, .int (nI (sP K1.1))), (13, .int (nI (tkS K1.1 20))), (12, .int (nI (tak (oFl K1.1 a n) n) - nI (tak K1.1 n))), (11, .int (nI (chg K1.1 (oFl K1.1 a n) n))), (10, .int (nI n)), (9, .int (nI a)), (4, .int (nI 1)), (8, .int ((actR Kc x).1)), (7, .int (nI x)), (6, .int (nI i)), (5, .int (nI (8 + (t1 % 17)))), (3, .int (nI f0)), (2, .ref (β 0)), (1, .ref (α 0)), (0, .ref b)]) dL_law_344 (by decide) rfl ?_
          have loop346_41 : ∀ (dd9 : Nat) (p : Nat) (tf : Nat → Int32) (wL400 : va_W) (wL401 : va_W), sP K1.1 - p < dd9 → (p ≤ sP K1.1) → (∀ q, q < p → tf q = mI (T K1.1 n q)) → (Ark E α K1 wL400) → (Ark E β K1 wL401) → Ω (jj + 1 + 39 + 1 + 39 + 160 + 1) (wL400 ++ (wL401 ++ [(qa, .inl (eI E, 6, .inl tf))])) [(16, .int (nI p)), (15, .ref qa), (14, .int (nI (sP K1.1))), (13, .int (nI (tkS K1.1 20))), (12, .int (nI (tak (oFl K1.1 a n) n) - nI (tak K1.1 n))), (11, .int (nI (chg K1.1 (oFl K1.1 a n) n))), (10, .int (nI n)), (9, .int (nI a)), (4, .int (nI 1)), (8, .int ((actR Kc x).1)), (7, .int (nI x)), (6, .int (nI i)), (5, .int (nI (8 + (t1 % 17)))), (3, .int (nI f0)), (2, .ref (β 0)), (1, .ref (α 0)), (0, .ref b)] [] 346 := by
            intro dd9
            induction dd9 with
            | zero => intro p tf wL400 wL401 hd; exact absurd hd (Nat.not_lt_zero _)
            | succ dd9 ih42 =>
              intro p tf wL400 wL401 hd hp htf hAL400 hAL401
              refine r_iload C (i := 16) 0 dL_law_346 rfl ?_
              refine r_iload C (i := 14) 2 dL_law_348 rfl ?_
              refine r_icmp_ge C (c9 := sP K1.1 ≤ p) 374 dL_law_350 (by decide) (c_leNN (by omega) (by omega)) (fun h350_43 => ?_) (fun h350_43 => ?_)
              · obtain rfl : p = sP K1.1 := by omega
                have hbm := bmC_lt hW1 n
                refine r_aload_n C (i := 1) 15 dL_law_374 rfl rfl ?_
                refine r_iconst C dL_law_375 ki_5 ?_
                refine r_iload C (i := 10) 6 dL_law_376 rfl ?_
                refine r_iconst C dL_law_378 ki_2 ?_
                refine r_iconst C dL_law_379 ki_0 ?_
                refine Ca.at hB.2.2.2.1 hB.2.1 (j := jj + 1 + 39 + 1 + 39 + 160 + 1) (K := 0) (rest := []) (pre := []) (suf := wL401 ++ [(qa, .inl (eI E, 6, .inl tf))]) (by omega) (cl_night_2 hst hAL400 (n := n) (hn := (by omega))).l lk_L_call w_2_41 dL_law_380 rfl ⟨by decide, by decide⟩ (Nat.le_of_ble_eq_true rfl) ?_
                rintro _ w44 ⟨rfl, hA45⟩
                show Ω (jj + 1 + 39 + 1 + 39 + 160 + 1) (w44 ++ (wL401 ++ [(qa, .inl (eI E, 6, .inl tf))])) [(16, .int (nI (sP K1.1))), (15, .ref qa), (14, .int (nI (sP K1.1))), (13, .int (nI (tkS K1.1 20))), (12, .int (nI (tak (oFl K1.1 a n) n) - nI (tak K1.1 n))), (11, .int (nI (chg K1.1 (oFl K1.1 a n) n))), (10, .int (nI n)), (9, .int (nI a)), (4, .int (nI 1)), (8, .int ((actR Kc x).1)), (7, .int (nI x)), (6, .int (nI i)), (5, .int (nI (8 + (t1 % 17)))), (3, .int (nI f0)), (2, .ref (β 0)), (1, .ref (α 0)), (0, .ref b)] [.int (nI (bm (fun a => sI K1.1 a n) 10))] 383
                refine r_iload C (i := 9) 7 dL_law_383 rfl ?_
                refine r_ishr (v := nI ((bm (fun a => sI K1.1 a n) 10) / 2 ^ a)) C dL_law_385 (v_shr (by omega) (by omega)) ?_
                refine r_iconst C dL_law_386 ki_1 ?_
                refine r_iand (v := nI (((bm (fun a => sI K1.1 a n) 10) / 2 ^ a) % 2)) C dL_law_387 (v_and1 _) ?_
                refine r_if_ne C (y := 0) (c9 := ((bm (fun a => sI K1.1 a n) 10) / 2 ^ a) % 2 ≠ 0) 395 dL_law_388 (by decide) (z_neN (by omega)) (fun h388_46 => ?_) (fun h388_46 => ?_)
                · have hsi : sI K1.1 a n = 1 := by
                    have h9 := hW1.I a n
                    have h8 : ¬ sI K1.1 a n = 0 := fun z => h388_46 (by rw [bmC_bit hW1 n (by omega : a < 10)]; exact z)
                    omega
                  have hfl : oFl K1.1 a n = oIll K1.1 a n 0 := by unfold oFl; rw [hsi]
                  have hch := cnt_hi (σ := K1.1) (a := a) (n := n) (b := 0) hn
                  have hcl := cntI_le hW1 a 20
                  refine r_iconst C dL_law_395 ki_0 ?_
                  refine r_istore C (lv' := [(16, .int (nI 0)), (15, .ref qa), (14, .int (nI (sP K1.1))), (13, .int (nI (tkS K1.1 20))), (12, .int (nI (tak (oFl K1.1 a n) n) - nI (tak K1.1 n))), (11, .int (nI (chg K1.1 (oFl K1.1 a n) n))), (10, .int (nI n)), (9, .int (nI a)), (4, .int (nI 1)), (8, .int ((actR Kc x).1)), (7, .int (nI x)), (6, .int (nI i)), (5, .int (nI (8 + (t1 % 17)))), (3, .int (nI f0)), (2, .ref (β 0)), (1, .ref (α 0)), (0, .ref b)]) dL_law_396 (by decide) rfl ?_
                  refine r_aload_n C (i := 1) 15 dL_law_398 rfl rfl ?_
                  refine r_bipush C dL_law_399 kb_6 ?_
                  refine r_iload C (i := 9) 7 dL_law_401 rfl ?_
                  refine r_iconst C dL_law_403 ki_5 ?_
                  refine r_iconst C dL_law_404 ki_0 ?_
                  refine Ca.at hB.2.2.2.1 hB.2.1 (j := jj + 1 + 39 + 1 + 39 + 160 + 1) (K := 0) (rest := []) (pre := []) (suf := wL401 ++ [(qa, .inl (eI E, 6, .inl tf))]) (by omega) (cl_actor_5 hst hA45 (a := a) (ha := (by omega))).l lk_L_call w_2_41 dL_law_405 rfl ⟨by decide, by decide⟩ (Nat.le_of_ble_eq_true rfl) ?_
                  rintro _ w47 ⟨rfl, hA48⟩
                  show Ω (jj + 1 + 39 + 1 + 39 + 160 + 1) (w47 ++ (wL401 ++ [(qa, .inl (eI E, 6, .inl tf))])) [(16, .int (nI 0)), (15, .ref qa), (14, .int (nI (sP K1.1))), (13, .int (nI (tkS K1.1 20))), (12, .int (nI (tak (oFl K1.1 a n) n) - nI (tak K1.1 n))), (11, .int (nI (chg K1.1 (oFl K1.1 a n) n))), (10, .int (nI n)), (9, .int (nI a)), (4, .int (nI 1)), (8, .int ((actR Kc x).1)), (7, .int (nI x)), (6, .int (nI i)), (5, .int (nI (8 + (t1 % 17)))), (3, .int (nI f0)), (2, .ref (β 0)), (1, .ref (α 0)), (0, .ref b)] [.int (nI (cntI K1.1 a 20))] 408
                  refine r_istore C (lv' := [(17, .int (nI (cntI K1.1 a 20))), (16, .int (nI 0)), (15, .ref qa), (14, .int (nI (sP K1.1))), (13, .int (nI (tkS K1.1 20))), (12, .int (nI (tak (oFl K1.1 a n) n) - nI (tak K1.1 n))), (11, .int (nI (chg K1.1 (oFl K1.1 a n) n))), (10, .int (nI n)), (9, .int (nI a)), (4, .int (nI 1)), (8, .int ((actR Kc x).1)), (7, .int (nI x)), (6, .int (nI i)), (5, .int (nI (8 + (t1 % 17)))), (3, .int (nI f0)), (2, .ref (β 0)), (1, .ref (α 0)), (0, .ref b)]) dL_law_408 (by decide) rfl ?_
                  refine r_iload C (i := 4) 9 dL_law_410 rfl ?_
                  refine r_if_eqF C (y := 0) (tgt := 493) dL_law_412 (by decide) (fun z => ((by decide) : ¬ (1 = 0)) ((z_eqN (by omega)).mp z)) ?_
                  refine r_aload_n C (i := 1) 16 dL_law_415 rfl rfl ?_
                  refine r_iload C (i := 9) 8 dL_law_416 rfl ?_
                  refine r_iload C (i := 10) 7 dL_law_418 rfl ?_
                  refine r_iload C (i := 16) 1 dL_law_420 rfl ?_
                  refine Ca.at hB.2.2.2.1 hB.2.1 (j := jj + 1 + 39 + 1 + 39 + 160 + 1) (K := 0) (rest := []) (pre := []) (suf := wL401 ++ [(qa, .inl (eI E, 6, .inl tf))]) (by omega) (t_ill hst hA48 (a := a) (k := 0) (n := n) (ha := (by omega)) (hn := (by omega)) (hk := (by omega))).l lk_L_setIll w_1_159 dL_law_422 rfl ⟨by decide, by decide⟩ (Nat.le_of_ble_eq_true rfl) ?_
                  rintro _ w49 ⟨rfl, hA50⟩
                  replace hA50 : Ark E α (kDo K1 (oIll K1.1 a n 0)) w49 := hA50
                  show Ω (jj + 1 + 39 + 1 + 39 + 160 + 1) (w49 ++ (wL401 ++ [(qa, .inl (eI E, 6, .inl tf))])) [(17, .int (nI (cntI K1.1 a 20))), (16, .int (nI 0)), (15, .ref qa), (14, .int (nI (sP K1.1))), (13, .int (nI (tkS K1.1 20))), (12, .int (nI (tak (oFl K1.1 a n) n) - nI (tak K1.1 n))), (11, .int (nI (chg K1.1 (oFl K1.1 a n) n))), (10, .int (nI n)), (9, .int (nI a)), (4, .int (nI 1)), (8, .int ((actR Kc x).1)), (7, .int (nI x)), (6, .int (nI i)), (5, .int (nI (8 + (t1 % 17)))), (3, .int (nI f0)), (2, .ref (β 0)), (1, .ref (α 0)), (0, .ref b)] [.int (nI (cntI (oIll K1.1 a n 0) a 20))] 425
                  refine r_iload C (i := 16) 1 dL_law_425 rfl ?_
                  refine r_if_eqT C (y := 0) 437 dL_law_427 (by decide) ((z_eqN (by omega)).mpr (by decide)) ?_
                  refine r_iload C (i := 17) 0 dL_law_437 rfl ?_
                  refine r_iconst C dL_law_439 ki_1 ?_
                  refine r_isub (v := nI ((cntI K1.1 a 20) - 1)) C dL_law_440 (v_sub (by omega)) ?_
                  refine r_icmp_neF C (tgt := 493) dL_law_441 (by decide) (fun z => ((by omega) : ¬ (cntI (oIll K1.1 a n 0) a 20 ≠ (cntI K1.1 a 20) - 1)) ((c_neNN (by omega) (by omega)).mp z)) ?_
                  refine r_aload_n C (i := 2) 15 dL_law_444 rfl rfl ?_
                  refine r_iload C (i := 9) 8 dL_law_445 rfl ?_
                  refine r_iload C (i := 10) 7 dL_law_447 rfl ?_
                  refine r_iload C (i := 16) 1 dL_law_449 rfl ?_
                  refine Ca.at hB.2.2.2.1 hB.2.1 (j := jj + 1 + 39 + 1 + 39 + 160 + 1) (K := 0) (rest := []) (pre := w49) (suf := [(qa, .inl (eI E, 6, .inl tf))]) (by omega) (t_ill hst hAL401 (a := a) (k := 0) (n := n) (ha := (by omega)) (hn := (by omega)) (hk := (by omega))).l lk_L_setIll w_1_159 dL_law_451 rfl ⟨by decide, by decide⟩ (Nat.le_of_ble_eq_true rfl) ?_
                  rintro _ w51 ⟨rfl, hA52⟩
                  replace hA52 : Ark E β (kDo K1 (oIll K1.1 a n 0)) w51 := hA52
                  show Ω (jj + 1 + 39 + 1 + 39 + 160 + 1) (w49 ++ (w51 ++ [(qa, .inl (eI E, 6, .inl tf))])) [(17, .int (nI (cntI K1.1 a 20))), (16, .int (nI 0)), (15, .ref qa), (14, .int (nI (sP K1.1))), (13, .int (nI (tkS K1.1 20))), (12, .int (nI (tak (oFl K1.1 a n) n) - nI (tak K1.1 n))), (11, .int (nI (chg K1.1 (oFl K1.1 a n) n))), (10, .int (nI n)), (9, .int (nI a)), (4, .int (nI 1)), (8, .int ((actR Kc x).1)), (7, .int (nI x)), (6, .int (nI i)), (5, .int (nI (8 + (t1 % 17)))), (3, .int (nI f0)), (2, .ref (β 0)), (1, .ref (α 0)), (0, .ref b)] [.int (nI (cntI (oIll K1.1 a n 0) a 20))] 454
                  refine r_iload C (i := 16) 1 dL_law_454 rfl ?_
                  refine r_if_eqT C (y := 0) 466 dL_law_456 (by decide) ((z_eqN (by omega)).mpr (by decide)) ?_
                  refine r_iload C (i := 17) 0 dL_law_466 rfl ?_
                  refine r_iconst C dL_law_468 ki_1 ?_
                  refine r_isub (v := nI ((cntI K1.1 a 20) - 1)) C dL_law_469 (v_sub (by omega)) ?_
                  refine r_icmp_neF C (tgt := 493) dL_law_470 (by decide) (fun z => ((by omega) : ¬ (cntI (oIll K1.1 a n 0) a 20 ≠ (cntI K1.1 a 20) - 1)) ((c_neNN (by omega) (by omega)).mp z)) ?_
                  refine r_aload_n C (i := 1) 16 dL_law_473 rfl rfl ?_
                  refine r_iconst C dL_law_474 ki_2 ?_
                  refine r_iconst C dL_law_475 ki_4 ?_
                  refine r_iconst C dL_law_476 ki_0 ?_
                  refine r_iconst C dL_law_477 ki_0 ?_
                  refine Ca.at hB.2.2.2.1 hB.2.1 (j := jj + 1 + 39 + 1 + 39 + 160 + 1) (K := 0) (rest := []) (pre := []) (suf := w51 ++ [(qa, .inl (eI E, 6, .inl tf))]) (by omega) (cl_about_4 hst hA50  ).l lk_L_call w_2_41 dL_law_478 rfl ⟨by decide, by decide⟩ (Nat.le_of_ble_eq_true rfl) ?_
                  rintro _ w53 ⟨rfl, hA54⟩
                  show Ω (jj + 1 + 39 + 1 + 39 + 160 + 1) (w53 ++ (w51 ++ [(qa, .inl (eI E, 6, .inl tf))])) [(17, .int (nI (cntI K1.1 a 20))), (16, .int (nI 0)), (15, .ref qa), (14, .int (nI (sP K1.1))), (13, .int (nI (tkS K1.1 20))), (12, .int (nI (tak (oFl K1.1 a n) n) - nI (tak K1.1 n))), (11, .int (nI (chg K1.1 (oFl K1.1 a n) n))), (10, .int (nI n)), (9, .int (nI a)), (4, .int (nI 1)), (8, .int ((actR Kc x).1)), (7, .int (nI x)), (6, .int (nI i)), (5, .int (nI (8 + (t1 % 17)))), (3, .int (nI f0)), (2, .ref (β 0)), (1, .ref (α 0)), (0, .ref b)] [.int (nI (tkS ((kDo K1 (oIll K1.1 a n 0)).1) 20))] 481
                  refine r_iload C (i := 13) 4 dL_law_481 rfl ?_
                  refine r_iload C (i := 12) 5 dL_law_483 rfl ?_
                  refine r_iadd (v := (nI (tkS K1.1 20) + (nI (tak (oFl K1.1 a n) n) - nI (tak K1.1 n)))) C dL_law_485 rfl ?_
                  refine r_icmp_neF C (tgt := 493) dL_law_486 (by decide) (fun z => ((fun z => z (by rw [hfl]; exact more_eq hn)) : ¬ (nI (tkS ((kDo K1 (oIll K1.1 a n 0)).1) 20) ≠ (nI (tkS K1.1 20) + (nI (tak (oFl K1.1 a n) n) - nI (tak K1.1 n))))) (Iff.rfl.mp z)) ?_
                  refine r_iconst C dL_law_489 ki_1 ?_
                  refine r_goto C 494 dL_law_490 (by decide) ?_
                  refine r_istore C (lv' := [(4, .int (nI 1)), (17, .int (nI (cntI K1.1 a 20))), (16, .int (nI 0)), (15, .ref qa), (14, .int (nI (sP K1.1))), (13, .int (nI (tkS K1.1 20))), (12, .int (nI (tak (oFl K1.1 a n) n) - nI (tak K1.1 n))), (11, .int (nI (chg K1.1 (oFl K1.1 a n) n))), (10, .int (nI n)), (9, .int (nI a)), (8, .int ((actR Kc x).1)), (7, .int (nI x)), (6, .int (nI i)), (5, .int (nI (8 + (t1 % 17)))), (3, .int (nI f0)), (2, .ref (β 0)), (1, .ref (α 0)), (0, .ref b)]) dL_law_494 (by decide) rfl ?_
                  refine r_iconst C dL_law_496 ki_0 ?_
                  refine r_istore C (lv' := [(18, .int (nI 0)), (4, .int (nI 1)), (17, .int (nI (cntI K1.1 a 20))), (16, .int (nI 0)), (15, .ref qa), (14, .int (nI (sP K1.1))), (13, .int (nI (tkS K1.1 20))), (12, .int (nI (tak (oFl K1.1 a n) n) - nI (tak K1.1 n))), (11, .int (nI (chg K1.1 (oFl K1.1 a n) n))), (10, .int (nI n)), (9, .int (nI a)), (8, .int ((actR Kc x).1)), (7, .int (nI x)), (6, .int (nI i)), (5, .int (nI (8 + (t1 % 17)))), (3, .int (nI f0)), (2, .ref (β 0)), (1, .ref (α 0)), (0, .ref b)]) dL_law_497 (by decide) rfl ?_
                  have loop499_56 : ∀ (dd9 : Nat) (p : Nat) (wL550 : va_W) (wL551 : va_W), sP K1.1 - p < dd9 → (p ≤ sP K1.1) → (Ark E α (kDo K1 (oIll K1.1 a n 0)) wL550) → (Ark E β (kDo K1 (oIll K1.1 a n 0)) wL551) → Ω (jj + 1 + 39 + 1 + 39 + 160 + 1) (wL550 ++ (wL551 ++ [(qa, .inl (eI E, 6, .inl tf))])) [(18, .int (nI p)), (4, .int (nI 1)), (17, .int (nI (cntI K1.1 a 20))), (16, .int (nI 0)), (15, .ref qa), (14, .int (nI (sP K1.1))), (13, .int (nI (tkS K1.1 20))), (12, .int (nI (tak (oFl K1.1 a n) n) - nI (tak K1.1 n))), (11, .int (nI (chg K1.1 (oFl K1.1 a n) n))), (10, .int (nI n)), (9, .int (nI a)), (8, .int ((actR Kc x).1)), (7, .int (nI x)), (6, .int (nI i)), (5, .int (nI (8 + (t1 % 17)))), (3, .int (nI f0)), (2, .ref (β 0)), (1, .ref (α 0)), (0, .ref b)] [] 499 := by
                    intro dd9
                    induction dd9 with
                    | zero => intro p wL550 wL551 hd; exact absurd hd (Nat.not_lt_zero _)
                    | succ dd9 ih57 =>
                      intro p wL550 wL551 hd hp hAL550 hAL551
                      refine r_iload C (i := 18) 0 dL_law_499 rfl ?_
                      refine r_iload C (i := 14) 5 dL_law_501 rfl ?_
                      refine r_icmp_ge C (c9 := sP K1.1 ≤ p) 557 dL_law_503 (by decide) (c_leNN (by omega) (by omega)) (fun h503_58 => ?_) (fun h503_58 => ?_)
                      · obtain rfl : p = sP K1.1 := by omega
                        refine r_iload C (i := 4) 1 dL_law_557 rfl ?_
                        refine r_if_eqF C (y := 0) (tgt := 639) dL_law_559 (by decide) (fun z => ((by decide) : ¬ (1 = 0)) ((z_eqN (by omega)).mp z)) ?_
                        refine r_aload_n C (i := 1) 17 dL_law_562 rfl rfl ?_
                        refine r_bipush C dL_law_563 kb_17 ?_
                        refine r_iconst C dL_law_565 ki_0 ?_
                        refine r_iconst C dL_law_566 ki_0 ?_
                        refine r_iconst C dL_law_567 ki_0 ?_
                        refine Ca.at hB.2.2.2.1 hB.2.1 (j := jj + 1 + 39 + 1 + 39 + 160 + 1) (K := 0) (rest := []) (pre := []) (suf := wL551 ++ [(qa, .inl (eI E, 6, .inl tf))]) (by omega) (cl_undo hst hAL550  (hq := push_ne)).l lk_L_call w_2_41 dL_law_568 rfl ⟨by decide, by decide⟩ (Nat.le_of_ble_eq_true rfl) ?_
                        rintro _ w59 ⟨rfl, hA60⟩
                        replace hA60 : Ark E α (kUn (kDo K1 (oIll K1.1 a n 0))) w59 := hA60
                        show Ω (jj + 1 + 39 + 1 + 39 + 160 + 1) (w59 ++ (wL551 ++ [(qa, .inl (eI E, 6, .inl tf))])) [(18, .int (nI (sP K1.1))), (4, .int (nI 1)), (17, .int (nI (cntI K1.1 a 20))), (16, .int (nI 0)), (15, .ref qa), (14, .int (nI (sP K1.1))), (13, .int (nI (tkS K1.1 20))), (12, .int (nI (tak (oFl K1.1 a n) n) - nI (tak K1.1 n))), (11, .int (nI (chg K1.1 (oFl K1.1 a n) n))), (10, .int (nI n)), (9, .int (nI a)), (8, .int ((actR Kc x).1)), (7, .int (nI x)), (6, .int (nI i)), (5, .int (nI (8 + (t1 % 17)))), (3, .int (nI f0)), (2, .ref (β 0)), (1, .ref (α 0)), (0, .ref b)] [.int (nI (((kDo K1 (oIll K1.1 a n 0)).2.2.1) - 1))] 571
                        refine r_readS (rest := []) C (c_L_thrown (x := (nI (((kDo K1 (oIll K1.1 a n 0)).2.2.1) - 1))) ) lk_L_thrown w_4_236 [] dL_law_571 rfl rfl rfl ⟨by decide, by decide⟩ (Nat.le_of_ble_eq_true rfl) (st' := [.int (bP (thr (nI (((kDo K1 (oIll K1.1 a n 0)).2.2.1) - 1))))]) rfl ?_
                        refine r_if_neF C (y := 0) (tgt := 639) dL_law_574 (by decide) (fun z => ((thr_N (Nat.lt_of_le_of_lt hA60.N (by decide))) : ¬ (thr (nI (((kDo K1 (oIll K1.1 a n 0)).2.2.1) - 1)))) (z_neB.mp z)) ?_
                        refine r_aload_n C (i := 2) 16 dL_law_577 rfl rfl ?_
                        refine r_bipush C dL_law_578 kb_17 ?_
                        refine r_iconst C dL_law_580 ki_0 ?_
                        refine r_iconst C dL_law_581 ki_0 ?_
                        refine r_iconst C dL_law_582 ki_0 ?_
                        refine Ca.at hB.2.2.2.1 hB.2.1 (j := jj + 1 + 39 + 1 + 39 + 160 + 1) (K := 0) (rest := []) (pre := w59) (suf := [(qa, .inl (eI E, 6, .inl tf))]) (by omega) (cl_undo hst hAL551  (hq := push_ne)).l lk_L_call w_2_41 dL_law_583 rfl ⟨by decide, by decide⟩ (Nat.le_of_ble_eq_true rfl) ?_
                        rintro _ w61 ⟨rfl, hA62⟩
                        replace hA62 : Ark E β (kUn (kDo K1 (oIll K1.1 a n 0))) w61 := hA62
                        show Ω (jj + 1 + 39 + 1 + 39 + 160 + 1) (w59 ++ (w61 ++ [(qa, .inl (eI E, 6, .inl tf))])) [(18, .int (nI (sP K1.1))), (4, .int (nI 1)), (17, .int (nI (cntI K1.1 a 20))), (16, .int (nI 0)), (15, .ref qa), (14, .int (nI (sP K1.1))), (13, .int (nI (tkS K1.1 20))), (12, .int (nI (tak (oFl K1.1 a n) n) - nI (tak K1.1 n))), (11, .int (nI (chg K1.1 (oFl K1.1 a n) n))), (10, .int (nI n)), (9, .int (nI a)), (8, .int ((actR Kc x).1)), (7, .int (nI x)), (6, .int (nI i)), (5, .int (nI (8 + (t1 % 17)))), (3, .int (nI f0)), (2, .ref (β 0)), (1, .ref (α 0)), (0, .ref b)] [.int (nI (((kDo K1 (oIll K1.1 a n 0)).2.2.1) - 1))] 586
                        refine r_readS (rest := []) C (c_L_thrown (x := (nI (((kDo K1 (oIll K1.1 a n 0)).2.2.1) - 1))) ) lk_L_thrown w_4_236 [] dL_law_586 rfl rfl rfl ⟨by decide, by decide⟩ (Nat.le_of_ble_eq_true rfl) (st' := [.int (bP (thr (nI (((kDo K1 (oIll K1.1 a n 0)).2.2.1) - 1))))]) rfl ?_
                        refine r_if_neF C (y := 0) (tgt := 639) dL_law_589 (by decide) (fun z => ((thr_N (Nat.lt_of_le_of_lt hA62.N (by decide))) : ¬ (thr (nI (((kDo K1 (oIll K1.1 a n 0)).2.2.1) - 1)))) (z_neB.mp z)) ?_
                        obtain ⟨hG2e, he2e⟩ := Gk_back hG1 (gd_il (a := a) (n := n) (b := 0) hG1.1) (nx_il K1.1 a n 0)
                        obtain ⟨K2, hK2⟩ : ∃ K2 : Kt, K2 = (kUn (kDo K1 (oIll K1.1 a n 0))) := ⟨_, rfl⟩
                        have hA9K2 : Ark E α (kUn (kDo K1 (oIll K1.1 a n 0))) w59 := hA60
                        have hQ9K2 : Ark E β (kUn (kDo K1 (oIll K1.1 a n 0))) w61 := hA62
                        rw [← hK2] at hA9K2 hQ9K2
                        rw [← hK2] at hG2e he2e
                        have hG2 := hG2e
                        have he2 := he2e
                        have hg22 : 2 ≤ sA K2.1 := hG2.1.2
                        have hW2 := hA9K2.W
                        have htl2 := tkS_le hW2 (Nat.le_refl 20)
                        have hwA2 := hW2.A
                        refine r_aload_n C (i := 1) 17 dL_law_592 rfl rfl ?_
                        refine r_iconst C dL_law_593 ki_2 ?_
                        refine r_iconst C dL_law_594 ki_4 ?_
                        refine r_iconst C dL_law_595 ki_0 ?_
                        refine r_iconst C dL_law_596 ki_0 ?_
                        refine Ca.at hB.2.2.2.1 hB.2.1 (j := jj + 1 + 39 + 1 + 39 + 160 + 1) (K := 0) (rest := []) (pre := []) (suf := w61 ++ [(qa, .inl (eI E, 6, .inl tf))]) (by omega) (cl_about_4 hst hA9K2  ).l lk_L_call w_2_41 dL_law_597 rfl ⟨by decide, by decide⟩ (Nat.le_of_ble_eq_true rfl) ?_
                        rintro _ w63 ⟨rfl, hA64⟩
                        show Ω (jj + 1 + 39 + 1 + 39 + 160 + 1) (w63 ++ (w61 ++ [(qa, .inl (eI E, 6, .inl tf))])) [(18, .int (nI (sP K1.1))), (4, .int (nI 1)), (17, .int (nI (cntI K1.1 a 20))), (16, .int (nI 0)), (15, .ref qa), (14, .int (nI (sP K1.1))), (13, .int (nI (tkS K1.1 20))), (12, .int (nI (tak (oFl K1.1 a n) n) - nI (tak K1.1 n))), (11, .int (nI (chg K1.1 (oFl K1.1 a n) n))), (10, .int (nI n)), (9, .int (nI a)), (8, .int ((actR Kc x).1)), (7, .int (nI x)), (6, .int (nI i)), (5, .int (nI (8 + (t1 % 17)))), (3, .int (nI f0)), (2, .ref (β 0)), (1, .ref (α 0)), (0, .ref b)] [.int (nI (tkS K2.1 20))] 600
                        refine r_iload C (i := 13) 6 dL_law_600 rfl ?_
                        refine r_icmp_neF C (tgt := 639) dL_law_602 (by decide) (fun z => ((fun z => z (by rw [he2])) : ¬ (tkS K2.1 20 ≠ tkS K1.1 20)) ((c_neNN (by omega) (by omega)).mp z)) ?_
                        refine r_aload_n C (i := 1) 17 dL_law_605 rfl rfl ?_
                        refine r_aload_n C (i := 2) 16 dL_law_606 rfl rfl ?_
                        refine r_iload C (i := 7) 12 dL_law_607 rfl ?_
                        refine r_bipush C dL_law_609 kb_11 ?_
                        refine r_idiv (v := nI (x / 11)) C dL_law_611 (v_nz (by omega) (by omega)) (v_div (by omega) (by omega) (by omega)) ?_
                        refine r_iload C (i := 14) 5 dL_law_612 rfl ?_
                        refine r_irem (v := nI ((x / 11) % (sP K1.1))) C dL_law_614 (v_nz (by omega) (by omega)) (v_rem (by omega) (by omega) (by omega)) ?_
                        refine r_iload C (i := 7) 12 dL_law_615 rfl ?_
                        refine r_bipush C dL_law_617 kb_13 ?_
                        refine r_idiv (v := nI (x / 13)) C dL_law_619 (v_nz (by omega) (by omega)) (v_div (by omega) (by omega) (by omega)) ?_
                        refine r_aload_n C (i := 1) 17 dL_law_620 rfl rfl ?_
                        refine r_iconst C dL_law_621 ki_2 ?_
                        refine r_iconst C dL_law_622 ki_1 ?_
                        refine r_iconst C dL_law_623 ki_0 ?_
                        refine r_iconst C dL_law_624 ki_0 ?_
                        refine Ca.at hB.2.2.2.1 hB.2.1 (j := jj + 1 + 39 + 1 + 39 + 160 + 1) (K := 0) (rest := [.int (nI (x / 13)), .int (nI ((x / 11) % (sP K1.1))), .ref (β 0), .ref (α 0)]) (pre := []) (suf := w61 ++ [(qa, .inl (eI E, 6, .inl tf))]) (by omega) (cl_about_1 hst hA64  ).l lk_L_call w_2_41 dL_law_625 rfl ⟨by decide, by decide⟩ (Nat.le_of_ble_eq_true rfl) ?_
                        rintro _ w65 ⟨rfl, hA66⟩
                        show Ω (jj + 1 + 39 + 1 + 39 + 160 + 1) (w65 ++ (w61 ++ [(qa, .inl (eI E, 6, .inl tf))])) [(18, .int (nI (sP K1.1))), (4, .int (nI 1)), (17, .int (nI (cntI K1.1 a 20))), (16, .int (nI 0)), (15, .ref qa), (14, .int (nI (sP K1.1))), (13, .int (nI (tkS K1.1 20))), (12, .int (nI (tak (oFl K1.1 a n) n) - nI (tak K1.1 n))), (11, .int (nI (chg K1.1 (oFl K1.1 a n) n))), (10, .int (nI n)), (9, .int (nI a)), (8, .int ((actR Kc x).1)), (7, .int (nI x)), (6, .int (nI i)), (5, .int (nI (8 + (t1 % 17)))), (3, .int (nI f0)), (2, .ref (β 0)), (1, .ref (α 0)), (0, .ref b)] [.int (nI (sA K2.1)), .int (nI (x / 13)), .int (nI ((x / 11) % (sP K1.1))), .ref (β 0), .ref (α 0)] 628
                        refine r_irem (v := nI ((x / 13) % (sA K2.1))) C dL_law_628 (v_nz (by omega) (by omega)) (v_rem (by omega) (by omega) (by omega)) ?_
                        refine Ca.both hB.2.2.2.1 hB.2.1 (j := jj + 1 + 39 + 1 + 39 + 160 + 1) (K := 2) (rest := []) (suf := [(qa, .inl (eI E, 6, .inl tf))]) (by omega) (n_study hst hA66 hQ9K2 (a := (x / 13) % (sA K2.1)) (p := (x / 11) % (sP K1.1)) (hG := hG2) (hp := (by rw [he2]; exact Nat.mod_lt _ (by omega))) (ha := (Nat.mod_lt _ (by omega)))).l lk_L_study w_5_69 dL_law_629 rfl ⟨by decide, by decide⟩ (Nat.le_of_ble_eq_true rfl) ?_
                        rintro _ _ ⟨K4, w67, w69, rfl, rfl, hG4, he4, hA68, hA70⟩
                        refine ⟨w67, w69, rfl, ?_⟩
                        have C := hB.1 (jj + 1 + 39 + 1 + 39 + 160 + 1 + 2) (by omega)
                        show Ω (jj + 1 + 39 + 1 + 39 + 160 + 1 + 2) (w67 ++ (w69 ++ [(qa, .inl (eI E, 6, .inl tf))])) [(18, .int (nI (sP K1.1))), (4, .int (nI 1)), (17, .int (nI (cntI K1.1 a 20))), (16, .int (nI 0)), (15, .ref qa), (14, .int (nI (sP K1.1))), (13, .int (nI (tkS K1.1 20))), (12, .int (nI (tak (oFl K1.1 a n) n) - nI (tak K1.1 n))), (11, .int (nI (chg K1.1 (oFl K1.1 a n) n))), (10, .int (nI n)), (9, .int (nI a)), (8, .int ((actR Kc x).1)), (7, .int (nI x)), (6, .int (nI i)), (5, .int (nI (8 + (t1 % 17)))), (3, .int (nI f0)), (2, .ref (β 0)), (1, .ref (α 0)), (0, .ref b)] [.int (nI 1)] 632
                        refine r_if_eqF C (y := 0) (tgt := 639) dL_law_632 (by decide) (fun z => ((by decide) : ¬ (1 = 0)) ((z_eqN (by omega)).mp z)) ?_
                        refine r_iconst C dL_law_635 ki_1 ?_
                        refine r_goto C 640 dL_law_636 (by decide) ?_
                        refine r_istore C (lv' := [(4, .int (nI 1)), (18, .int (nI (sP K1.1))), (17, .int (nI (cntI K1.1 a 20))), (16, .int (nI 0)), (15, .ref qa), (14, .int (nI (sP K1.1))), (13, .int (nI (tkS K1.1 20))), (12, .int (nI (tak (oFl K1.1 a n) n) - nI (tak K1.1 n))), (11, .int (nI (chg K1.1 (oFl K1.1 a n) n))), (10, .int (nI n)), (9, .int (nI a)), (8, .int ((actR Kc x).1)), (7, .int (nI x)), (6, .int (nI i)), (5, .int (nI (8 + (t1 % 17)))), (3, .int (nI f0)), (2, .ref (β 0)), (1, .ref (α 0)), (0, .ref b)]) dL_law_640 (by decide) rfl ?_
                        refine r_iinc C (lv' := [(6, .int (nI (i + 1))), (4, .int (nI 1)), (18, .int (nI (sP K1.1))), (17, .int (nI (cntI K1.1 a 20))), (16, .int (nI 0)), (15, .ref qa), (14, .int (nI (sP K1.1))), (13, .int (nI (tkS K1.1 20))), (12, .int (nI (tak (oFl K1.1 a n) n) - nI (tak K1.1 n))), (11, .int (nI (chg K1.1 (oFl K1.1 a n) n))), (10, .int (nI n)), (9, .int (nI a)), (8, .int ((actR Kc x).1)), (7, .int (nI x)), (5, .int (nI (8 + (t1 % 17)))), (3, .int (nI f0)), (2, .ref (β 0)), (1, .ref (α 0)), (0, .ref b)]) (v := nI (i + 1)) 13 dL_law_642 rfl (v_inc _) (by decide) rfl ?_
                        refine r_goto C 146 dL_law_645 (by decide) ?_
                        refine hB.drop ?_
                        refine r_lv (lv' := [(6, .int (nI (i + 1))), (5, .int (nI (8 + (t1 % 17)))), (4, .int (nI 1)), (3, .int (nI f0)), (2, .ref (β 0)), (1, .ref (α 0)), (0, .ref b)]) C [0, 14, 1, 15, 16, 17, 18] rfl ?_
                        exact ih15 K4 (i + 1) (jj + 1 + 39 + 1 + 39 + 160 + 1 + 2) w67 w69 (by omega) (by omega) (by omega) hG4 hA68 hA70
                      · have hpp : p < sP K1.1 := by omega
                        have hclt := chg_lt (τ := oFl K1.1 a n) hW1 n
                        have hT1 := T_le hW1 hpp hn
                        have hT2 : T (kDo K1 (oIll K1.1 a n 0)).1 n p ≤ sA K1.1 := T_le (σ := oIll K1.1 a n 0) (oIll_wf hW1 (by decide) ha) hpp hn
                        refine r_iload C (i := 4) 1 dL_law_506 rfl ?_
                        refine r_if_eqF C (y := 0) (tgt := 557) dL_law_508 (by decide) (fun z => ((by decide) : ¬ (1 = 0)) ((z_eqN (by omega)).mp z)) ?_
                        refine r_iload C (i := 11) 8 dL_law_511 rfl ?_
                        refine r_iload C (i := 18) 0 dL_law_513 rfl ?_
                        refine r_ishr (v := nI ((chg K1.1 (oFl K1.1 a n) n) / 2 ^ p)) C dL_law_515 (v_shr (by omega) (by omega)) ?_
                        refine r_iconst C dL_law_516 ki_1 ?_
                        refine r_iand (v := nI (((chg K1.1 (oFl K1.1 a n) n) / 2 ^ p) % 2)) C dL_law_517 (v_and1 _) ?_
                        refine r_aload_n C (i := 1) 17 dL_law_518 rfl rfl ?_
                        refine r_iconst C dL_law_519 ki_4 ?_
                        refine r_iload C (i := 10) 9 dL_law_520 rfl ?_
                        refine r_iload C (i := 18) 0 dL_law_522 rfl ?_
                        refine r_iconst C dL_law_524 ki_1 ?_
                        refine Ca.at hB.2.2.2.1 hB.2.1 (j := jj + 1 + 39 + 1 + 39 + 160 + 1) (K := 0) (rest := [.int (nI (((chg K1.1 (oFl K1.1 a n) n) / 2 ^ p) % 2))]) (pre := []) (suf := wL551 ++ [(qa, .inl (eI E, 6, .inl tf))]) (by omega) (cl_bill_1 hst hAL550 (n := n) (p := p) (hn := (by omega)) (hp := hpp)).l lk_L_call w_2_41 dL_law_525 rfl ⟨by decide, by decide⟩ (Nat.le_of_ble_eq_true rfl) ?_
                        rintro _ w71 ⟨rfl, hA72⟩
                        show Ω (jj + 1 + 39 + 1 + 39 + 160 + 1) (w71 ++ (wL551 ++ [(qa, .inl (eI E, 6, .inl tf))])) [(18, .int (nI p)), (4, .int (nI 1)), (17, .int (nI (cntI K1.1 a 20))), (16, .int (nI 0)), (15, .ref qa), (14, .int (nI (sP K1.1))), (13, .int (nI (tkS K1.1 20))), (12, .int (nI (tak (oFl K1.1 a n) n) - nI (tak K1.1 n))), (11, .int (nI (chg K1.1 (oFl K1.1 a n) n))), (10, .int (nI n)), (9, .int (nI a)), (8, .int ((actR Kc x).1)), (7, .int (nI x)), (6, .int (nI i)), (5, .int (nI (8 + (t1 % 17)))), (3, .int (nI f0)), (2, .ref (β 0)), (1, .ref (α 0)), (0, .ref b)] [.int (mI (T ((kDo K1 (oIll K1.1 a n 0)).1) n p)), .int (nI (((chg K1.1 (oFl K1.1 a n) n) / 2 ^ p) % 2))] 528
                        refine r_aload C (i := 15) 4 dL_law_528 rfl ?_
                        refine r_iload C (i := 18) 0 dL_law_530 rfl ?_
                        refine r_iald (j := p) (v := mI (T K1.1 n p)) C 50 (at50 hA72.len hAL551.len) (by omega) (by decide) (htf p hpp) dL_law_532 ?_
                        refine r_icmp_ne C (c9 := T ((kDo K1 (oIll K1.1 a n 0)).1) n p ≠ T K1.1 n p) 540 dL_law_533 (by decide) (c_neMM (by omega) (by omega)) (fun h533_73 => ?_) (fun h533_73 => ?_)
                        · have hcb : chg K1.1 (oFl K1.1 a n) n / 2 ^ p % 2 = 1 := by
                            rw [chg_bit hpp, if_neg]
                            intro z
                            rw [hfl] at z
                            exact h533_73 z.symm
                          refine r_iconst C dL_law_540 ki_1 ?_
                          refine r_icmp_neF C (tgt := 548) dL_law_541 (by decide) (fun z => ((by omega) : ¬ (((chg K1.1 (oFl K1.1 a n) n) / 2 ^ p) % 2 ≠ 1)) ((c_neNN (by omega) (by omega)).mp z)) ?_
                          refine r_iconst C dL_law_544 ki_1 ?_
                          refine r_goto C 549 dL_law_545 (by decide) ?_
                          refine r_istore C (lv' := [(4, .int (nI 1)), (18, .int (nI p)), (17, .int (nI (cntI K1.1 a 20))), (16, .int (nI 0)), (15, .ref qa), (14, .int (nI (sP K1.1))), (13, .int (nI (tkS K1.1 20))), (12, .int (nI (tak (oFl K1.1 a n) n) - nI (tak K1.1 n))), (11, .int (nI (chg K1.1 (oFl K1.1 a n) n))), (10, .int (nI n)), (9, .int (nI a)), (8, .int ((actR Kc x).1)), (7, .int (nI x)), (6, .int (nI i)), (5, .int (nI (8 + (t1 % 17)))), (3, .int (nI f0)), (2, .ref (β 0)), (1, .ref (α 0)), (0, .ref b)]) dL_law_549 (by decide) rfl ?_
                          refine r_iinc C (lv' := [(18, .int (nI (p + 1))), (4, .int (nI 1)), (17, .int (nI (cntI K1.1 a 20))), (16, .int (nI 0)), (15, .ref qa), (14, .int (nI (sP K1.1))), (13, .int (nI (tkS K1.1 20))), (12, .int (nI (tak (oFl K1.1 a n) n) - nI (tak K1.1 n))), (11, .int (nI (chg K1.1 (oFl K1.1 a n) n))), (10, .int (nI n)), (9, .int (nI a)), (8, .int ((actR Kc x).1)), (7, .int (nI x)), (6, .int (nI i)), (5, .int (nI (8 + (t1 % 17)))), (3, .int (nI f0)), (2, .ref (β 0)), (1, .ref (α 0)), (0, .ref b)]) (v := nI (p + 1)) 1 dL_law_551 rfl (v_inc _) (by decide) rfl ?_
                          refine r_goto C 499 dL_law_554 (by decide) ?_
                          exact ih57 (p + 1) w71 wL551 (by omega) (by omega) hA72 hAL551
                        · have hcb : chg K1.1 (oFl K1.1 a n) n / 2 ^ p % 2 = 0 := by rw [chg_bit hpp, if_pos (by rw [hfl]; exact (Decidable.not_not.mp h533_73).symm)]
                          refine r_iconst C dL_law_536 ki_0 ?_
                          refine r_goto C 541 dL_law_537 (by decide) ?_
                          refine r_icmp_neF C (tgt := 548) dL_law_541 (by decide) (fun z => ((by omega) : ¬ (((chg K1.1 (oFl K1.1 a n) n) / 2 ^ p) % 2 ≠ 0)) ((c_neNN (by omega) (by omega)).mp z)) ?_
                          refine r_iconst C dL_law_544 ki_1 ?_
                          refine r_goto C 549 dL_law_545 (by decide) ?_
                          refine r_istore C (lv' := [(4, .int (nI 1)), (18, .int (nI p)), (17, .int (nI (cntI K1.1 a 20))), (16, .int (nI 0)), (15, .ref qa), (14, .int (nI (sP K1.1))), (13, .int (nI (tkS K1.1 20))), (12, .int (nI (tak (oFl K1.1 a n) n) - nI (tak K1.1 n))), (11, .int (nI (chg K1.1 (oFl K1.1 a n) n))), (10, .int (nI n)), (9, .int (nI a)), (8, .int ((actR Kc x).1)), (7, .int (nI x)), (6, .int (nI i)), (5, .int (nI (8 + (t1 % 17)))), (3, .int (nI f0)), (2, .ref (β 0)), (1, .ref (α 0)), (0, .ref b)]) dL_law_549 (by decide) rfl ?_
                          refine r_iinc C (lv' := [(18, .int (nI (p + 1))), (4, .int (nI 1)), (17, .int (nI (cntI K1.1 a 20))), (16, .int (nI 0)), (15, .ref qa), (14, .int (nI (sP K1.1))), (13, .int (nI (tkS K1.1 20))), (12, .int (nI (tak (oFl K1.1 a n) n) - nI (tak K1.1 n))), (11, .int (nI (chg K1.1 (oFl K1.1 a n) n))), (10, .int (nI n)), (9, .int (nI a)), (8, .int ((actR Kc x).1)), (7, .int (nI x)), (6, .int (nI i)), (5, .int (nI (8 + (t1 % 17)))), (3, .int (nI f0)), (2, .ref (β 0)), (1, .ref (α 0)), (0, .ref b)]) (v := nI (p + 1)) 1 dL_law_551 rfl (v_inc _) (by decide) rfl ?_
                          refine r_goto C 499 dL_law_554 (by decide) ?_
                          exact ih57 (p + 1) w71 wL551 (by omega) (by omega) hA72 hAL551
                  exact loop499_56 _ 0 w53 w51 (Nat.lt_succ_self _) (by omega) hA54 hA52
                · have hsi : sI K1.1 a n = 0 := by rw [← bmC_bit hW1 n (by omega : a < 10)]; exact Decidable.not_not.mp h388_46
                  have hfl : oFl K1.1 a n = oIll K1.1 a n 1 := by unfold oFl; rw [hsi]
                  have hch := cnt_hi (σ := K1.1) (a := a) (n := n) (b := 1) hn
                  have hcl := cntI_le hW1 a 20
                  refine r_iconst C dL_law_391 ki_1 ?_
                  refine r_goto C 396 dL_law_392 (by decide) ?_
                  refine r_istore C (lv' := [(16, .int (nI 1)), (15, .ref qa), (14, .int (nI (sP K1.1))), (13, .int (nI (tkS K1.1 20))), (12, .int (nI (tak (oFl K1.1 a n) n) - nI (tak K1.1 n))), (11, .int (nI (chg K1.1 (oFl K1.1 a n) n))), (10, .int (nI n)), (9, .int (nI a)), (4, .int (nI 1)), (8, .int ((actR Kc x).1)), (7, .int (nI x)), (6, .int (nI i)), (5, .int (nI (8 + (t1 % 17)))), (3, .int (nI f0)), (2, .ref (β 0)), (1, .ref (α 0)), (0, .ref b)]) dL_law_396 (by decide) rfl ?_
                  refine r_aload_n C (i := 1) 15 dL_law_398 rfl rfl ?_
                  refine r_bipush C dL_law_399 kb_6 ?_
                  refine r_iload C (i := 9) 7 dL_law_401 rfl ?_
                  refine r_iconst C dL_law_403 ki_5 ?_
                  refine r_iconst C dL_law_404 ki_0 ?_
                  refine Ca.at hB.2.2.2.1 hB.2.1 (j := jj + 1 + 39 + 1 + 39 + 160 + 1) (K := 0) (rest := []) (pre := []) (suf := wL401 ++ [(qa, .inl (eI E, 6, .inl tf))]) (by omega) (cl_actor_5 hst hA45 (a := a) (ha := (by omega))).l lk_L_call w_2_41 dL_law_405 rfl ⟨by decide, by decide⟩ (Nat.le_of_ble_eq_true rfl) ?_
                  rintro _ w74 ⟨rfl, hA75⟩
                  show Ω (jj + 1 + 39 + 1 + 39 + 160 + 1) (w74 ++ (wL401 ++ [(qa, .inl (eI E, 6, .inl tf))])) [(16, .int (nI 1)), (15, .ref qa), (14, .int (nI (sP K1.1))), (13, .int (nI (tkS K1.1 20))), (12, .int (nI (tak (oFl K1.1 a n) n) - nI (tak K1.1 n))), (11, .int (nI (chg K1.1 (oFl K1.1 a n) n))), (10, .int (nI n)), (9, .int (nI a)), (4, .int (nI 1)), (8, .int ((actR Kc x).1)), (7, .int (nI x)), (6, .int (nI i)), (5, .int (nI (8 + (t1 % 17)))), (3, .int (nI f0)), (2, .ref (β 0)), (1, .ref (α 0)), (0, .ref b)] [.int (nI (cntI K1.1 a 20))] 408
                  refine r_istore C (lv' := [(17, .int (nI (cntI K1.1 a 20))), (16, .int (nI 1)), (15, .ref qa), (14, .int (nI (sP K1.1))), (13, .int (nI (tkS K1.1 20))), (12, .int (nI (tak (oFl K1.1 a n) n) - nI (tak K1.1 n))), (11, .int (nI (chg K1.1 (oFl K1.1 a n) n))), (10, .int (nI n)), (9, .int (nI a)), (4, .int (nI 1)), (8, .int ((actR Kc x).1)), (7, .int (nI x)), (6, .int (nI i)), (5, .int (nI (8 + (t1 % 17)))), (3, .int (nI f0)), (2, .ref (β 0)), (1, .ref (α 0)), (0, .ref b)]) dL_law_408 (by decide) rfl ?_
                  refine r_iload C (i := 4) 9 dL_law_410 rfl ?_
                  refine r_if_eqF C (y := 0) (tgt := 493) dL_law_412 (by decide) (fun z => ((by decide) : ¬ (1 = 0)) ((z_eqN (by omega)).mp z)) ?_
                  refine r_aload_n C (i := 1) 16 dL_law_415 rfl rfl ?_
                  refine r_iload C (i := 9) 8 dL_law_416 rfl ?_
                  refine r_iload C (i := 10) 7 dL_law_418 rfl ?_
                  refine r_iload C (i := 16) 1 dL_law_420 rfl ?_
                  refine Ca.at hB.2.2.2.1 hB.2.1 (j := jj + 1 + 39 + 1 + 39 + 160 + 1) (K := 0) (rest := []) (pre := []) (suf := wL401 ++ [(qa, .inl (eI E, 6, .inl tf))]) (by omega) (t_ill hst hA75 (a := a) (k := 1) (n := n) (ha := (by omega)) (hn := (by omega)) (hk := (by omega))).l lk_L_setIll w_1_159 dL_law_422 rfl ⟨by decide, by decide⟩ (Nat.le_of_ble_eq_true rfl) ?_
                  rintro _ w76 ⟨rfl, hA77⟩
                  replace hA77 : Ark E α (kDo K1 (oIll K1.1 a n 1)) w76 := hA77
                  show Ω (jj + 1 + 39 + 1 + 39 + 160 + 1) (w76 ++ (wL401 ++ [(qa, .inl (eI E, 6, .inl tf))])) [(17, .int (nI (cntI K1.1 a 20))), (16, .int (nI 1)), (15, .ref qa), (14, .int (nI (sP K1.1))), (13, .int (nI (tkS K1.1 20))), (12, .int (nI (tak (oFl K1.1 a n) n) - nI (tak K1.1 n))), (11, .int (nI (chg K1.1 (oFl K1.1 a n) n))), (10, .int (nI n)), (9, .int (nI a)), (4, .int (nI 1)), (8, .int ((actR Kc x).1)), (7, .int (nI x)), (6, .int (nI i)), (5, .int (nI (8 + (t1 % 17)))), (3, .int (nI f0)), (2, .ref (β 0)), (1, .ref (α 0)), (0, .ref b)] [.int (nI (cntI (oIll K1.1 a n 1) a 20))] 425
                  refine r_iload C (i := 16) 1 dL_law_425 rfl ?_
                  refine r_if_eqF C (y := 0) (tgt := 437) dL_law_427 (by decide) (fun z => ((by decide) : ¬ (1 = 0)) ((z_eqN (by omega)).mp z)) ?_
                  refine r_iload C (i := 17) 0 dL_law_430 rfl ?_
                  refine r_iconst C dL_law_432 ki_1 ?_
                  refine r_iadd (v := nI ((cntI K1.1 a 20) + 1)) C dL_law_433 (nI_add _ _) ?_
                  refine r_goto C 441 dL_law_434 (by decide) ?_
                  refine r_icmp_neF C (tgt := 493) dL_law_441 (by decide) (fun z => ((by omega) : ¬ (cntI (oIll K1.1 a n 1) a 20 ≠ (cntI K1.1 a 20) + 1)) ((c_neNN (by omega) (by omega)).mp z)) ?_
                  refine r_aload_n C (i := 2) 15 dL_law_444 rfl rfl ?_
                  refine r_iload C (i := 9) 8 dL_law_445 rfl ?_
                  refine r_iload C (i := 10) 7 dL_law_447 rfl ?_
                  refine r_iload C (i := 16) 1 dL_law_449 rfl ?_
                  refine Ca.at hB.2.2.2.1 hB.2.1 (j := jj + 1 + 39 + 1 + 39 + 160 + 1) (K := 0) (rest := []) (pre := w76) (suf := [(qa, .inl (eI E, 6, .inl tf))]) (by omega) (t_ill hst hAL401 (a := a) (k := 1) (n := n) (ha := (by omega)) (hn := (by omega)) (hk := (by omega))).l lk_L_setIll w_1_159 dL_law_451 rfl ⟨by decide, by decide⟩ (Nat.le_of_ble_eq_true rfl) ?_
                  rintro _ w78 ⟨rfl, hA79⟩
                  replace hA79 : Ark E β (kDo K1 (oIll K1.1 a n 1)) w78 := hA79
                  show Ω (jj + 1 + 39 + 1 + 39 + 160 + 1) (w76 ++ (w78 ++ [(qa, .inl (eI E, 6, .inl tf))])) [(17, .int (nI (cntI K1.1 a 20))), (16, .int (nI 1)), (15, .ref qa), (14, .int (nI (sP K1.1))), (13, .int (nI (tkS K1.1 20))), (12, .int (nI (tak (oFl K1.1 a n) n) - nI (tak K1.1 n))), (11, .int (nI (chg K1.1 (oFl K1.1 a n) n))), (10, .int (nI n)), (9, .int (nI a)), (4, .int (nI 1)), (8, .int ((actR Kc x).1)), (7, .int (nI x)), (6, .int (nI i)), (5, .int (nI (8 + (t1 % 17)))), (3, .int (nI f0)), (2, .ref (β 0)), (1, .ref (α 0)), (0, .ref b)] [.int (nI (cntI (oIll K1.1 a n 1) a 20))] 454
                  refine r_iload C (i := 16) 1 dL_law_454 rfl ?_
                  refine r_if_eqF C (y := 0) (tgt := 466) dL_law_456 (by decide) (fun z => ((by decide) : ¬ (1 = 0)) ((z_eqN (by omega)).mp z)) ?_
                  refine r_iload C (i := 17) 0 dL_law_459 rfl ?_
                  refine r_iconst C dL_law_461 ki_1 ?_
                  refine r_iadd (v := nI ((cntI K1.1 a 20) + 1)) C dL_law_462 (nI_add _ _) ?_
                  refine r_goto C 470 dL_law_463 (by decide) ?_
                  refine r_icmp_neF C (tgt := 493) dL_law_470 (by decide) (fun z => ((by omega) : ¬ (cntI (oIll K1.1 a n 1) a 20 ≠ (cntI K1.1 a 20) + 1)) ((c_neNN (by omega) (by omega)).mp z)) ?_
                  refine r_aload_n C (i := 1) 16 dL_law_473 rfl rfl ?_
                  refine r_iconst C dL_law_474 ki_2 ?_
                  refine r_iconst C dL_law_475 ki_4 ?_
                  refine r_iconst C dL_law_476 ki_0 ?_
                  refine r_iconst C dL_law_477 ki_0 ?_
                  refine Ca.at hB.2.2.2.1 hB.2.1 (j := jj + 1 + 39 + 1 + 39 + 160 + 1) (K := 0) (rest := []) (pre := []) (suf := w78 ++ [(qa, .inl (eI E, 6, .inl tf))]) (by omega) (cl_about_4 hst hA77  ).l lk_L_call w_2_41 dL_law_478 rfl ⟨by decide, by decide⟩ (Nat.le_of_ble_eq_true rfl) ?_
                  rintro _ w80 ⟨rfl, hA81⟩
                  show Ω (jj + 1 + 39 + 1 + 39 + 160 + 1) (w80 ++ (w78 ++ [(qa, .inl (eI E, 6, .inl tf))])) [(17, .int (nI (cntI K1.1 a 20))), (16, .int (nI 1)), (15, .ref qa), (14, .int (nI (sP K1.1))), (13, .int (nI (tkS K1.1 20))), (12, .int (nI (tak (oFl K1.1 a n) n) - nI (tak K1.1 n))), (11, .int (nI (chg K1.1 (oFl K1.1 a n) n))), (10, .int (nI n)), (9, .int (nI a)), (4, .int (nI 1)), (8, .int ((actR Kc x).1)), (7, .int (nI x)), (6, .int (nI i)), (5, .int (nI (8 + (t1 % 17)))), (3, .int (nI f0)), (2, .ref (β 0)), (1, .ref (α 0)), (0, .ref b)] [.int (nI (tkS ((kDo K1 (oIll K1.1 a n 1)).1) 20))] 481
                  refine r_iload C (i := 13) 4 dL_law_481 rfl ?_
                  refine r_iload C (i := 12) 5 dL_law_483 rfl ?_
                  refine r_iadd (v := (nI (tkS K1.1 20) + (nI (tak (oFl K1.1 a n) n) - nI (tak K1.1 n)))) C dL_law_485 rfl ?_
                  refine r_icmp_neF C (tgt := 493) dL_law_486 (by decide) (fun z => ((fun z => z (by rw [hfl]; exact more_eq hn)) : ¬ (nI (tkS ((kDo K1 (oIll K1.1 a n 1)).1) 20) ≠ (nI (tkS K1.1 20) + (nI (tak (oFl K1.1 a n) n) - nI (tak K1.1 n))))) (Iff.rfl.mp z)) ?_
                  refine r_iconst C dL_law_489 ki_1 ?_
                  refine r_goto C 494 dL_law_490 (by decide) ?_
                  refine r_istore C (lv' := [(4, .int (nI 1)), (17, .int (nI (cntI K1.1 a 20))), (16, .int (nI 1)), (15, .ref qa), (14, .int (nI (sP K1.1))), (13, .int (nI (tkS K1.1 20))), (12, .int (nI (tak (oFl K1.1 a n) n) - nI (tak K1.1 n))), (11, .int (nI (chg K1.1 (oFl K1.1 a n) n))), (10, .int (nI n)), (9, .int (nI a)), (8, .int ((actR Kc x).1)), (7, .int (nI x)), (6, .int (nI i)), (5, .int (nI (8 + (t1 % 17)))), (3, .int (nI f0)), (2, .ref (β 0)), (1, .ref (α 0)), (0, .ref b)]) dL_law_494 (by decide) rfl ?_
                  refine r_iconst C dL_law_496 ki_0 ?_
                  refine r_istore C (lv' := [(18, .int (nI 0)), (4, .int (nI 1)), (17, .int (nI (cntI K1.1 a 20))), (16, .int (nI 1)), (15, .ref qa), (14, .int (nI (sP K1.1))), (13, .int (nI (tkS K1.1 20))), (12, .int (nI (tak (oFl K1.1 a n) n) - nI (tak K1.1 n))), (11, .int (nI (chg K1.1 (oFl K1.1 a n) n))), (10, .int (nI n)), (9, .int (nI a)), (8, .int ((actR Kc x).1)), (7, .int (nI x)), (6, .int (nI i)), (5, .int (nI (8 + (t1 % 17)))), (3, .int (nI f0)), (2, .ref (β 0)), (1, .ref (α 0)), (0, .ref b)]) dL_law_497 (by decide) rfl ?_
                  have loop499_83 : ∀ (dd9 : Nat) (p : Nat) (wL820 : va_W) (wL821 : va_W), sP K1.1 - p < dd9 → (p ≤ sP K1.1) → (Ark E α (kDo K1 (oIll K1.1 a n 1)) wL820) → (Ark E β (kDo K1 (oIll K1.1 a n 1)) wL821) → Ω (jj + 1 + 39 + 1 + 39 + 160 + 1) (wL820 ++ (wL821 ++ [(qa, .inl (eI E, 6, .inl tf))])) [(18, .int (nI p)), (4, .int (nI 1)), (17, .int (nI (cntI K1.1 a 20))), (16, .int (nI 1)), (15, .ref qa), (14, .int (nI (sP K1.1))), (13, .int (nI (tkS K1.1 20))), (12, .int (nI (tak (oFl K1.1 a n) n) - nI (tak K1.1 n))), (11, .int (nI (chg K1.1 (oFl K1.1 a n) n))), (10, .int (nI n)), (9, .int (nI a)), (8, .int ((actR Kc x).1)), (7, .int (nI x)), (6, .int (nI i)), (5, .int (nI (8 + (t1 % 17)))), (3, .int (nI f0)), (2, .ref (β 0)), (1, .ref (α 0)), (0, .ref b)] [] 499 := by
                    intro dd9
                    induction dd9 with
                    | zero => intro p wL820 wL821 hd; exact absurd hd (Nat.not_lt_zero _)
                    | succ dd9 ih84 =>
                      intro p wL820 wL821 hd hp hAL820 hAL821
                      refine r_iload C (i := 18) 0 dL_law_499 rfl ?_
                      refine r_iload C (i := 14) 5 dL_law_501 rfl ?_
                      refine r_icmp_ge C (c9 := sP K1.1 ≤ p) 557 dL_law_503 (by decide) (c_leNN (by omega) (by omega)) (fun h503_85 => ?_) (fun h503_85 => ?_)
                      · obtain rfl : p = sP K1.1 := by omega
                        refine r_iload C (i := 4) 1 dL_law_557 rfl ?_
                        refine r_if_eqF C (y := 0) (tgt := 639) dL_law_559 (by decide) (fun z => ((by decide) : ¬ (1 = 0)) ((z_eqN (by omega)).mp z)) ?_
                        refine r_aload_n C (i := 1) 17 dL_law_562 rfl rfl ?_
                        refine r_bipush C dL_law_563 kb_17 ?_
                        refine r_iconst C dL_law_565 ki_0 ?_
                        refine r_iconst C dL_law_566 ki_0 ?_
                        refine r_iconst C dL_law_567 ki_0 ?_
                        refine Ca.at hB.2.2.2.1 hB.2.1 (j := jj + 1 + 39 + 1 + 39 + 160 + 1) (K := 0) (rest := []) (pre := []) (suf := wL821 ++ [(qa, .inl (eI E, 6, .inl tf))]) (by omega) (cl_undo hst hAL820  (hq := push_ne)).l lk_L_call w_2_41 dL_law_568 rfl ⟨by decide, by decide⟩ (Nat.le_of_ble_eq_true rfl) ?_
                        rintro _ w86 ⟨rfl, hA87⟩
                        replace hA87 : Ark E α (kUn (kDo K1 (oIll K1.1 a n 1))) w86 := hA87
                        show Ω (jj + 1 + 39 + 1 + 39 + 160 + 1) (w86 ++ (wL821 ++ [(qa, .inl (eI E, 6, .inl tf))])) [(18, .int (nI (sP K1.1))), (4, .int (nI 1)), (17, .int (nI (cntI K1.1 a 20))), (16, .int (nI 1)), (15, .ref qa), (14, .int (nI (sP K1.1))), (13, .int (nI (tkS K1.1 20))), (12, .int (nI (tak (oFl K1.1 a n) n) - nI (tak K1.1 n))), (11, .int (nI (chg K1.1 (oFl K1.1 a n) n))), (10, .int (nI n)), (9, .int (nI a)), (8, .int ((actR Kc x).1)), (7, .int (nI x)), (6, .int (nI i)), (5, .int (nI (8 + (t1 % 17)))), (3, .int (nI f0)), (2, .ref (β 0)), (1, .ref (α 0)), (0, .ref b)] [.int (nI (((kDo K1 (oIll K1.1 a n 1)).2.2.1) - 1))] 571
                        refine r_readS (rest := []) C (c_L_thrown (x := (nI (((kDo K1 (oIll K1.1 a n 1)).2.2.1) - 1))) ) lk_L_thrown w_4_236 [] dL_law_571 rfl rfl rfl ⟨by decide, by decide⟩ (Nat.le_of_ble_eq_true rfl) (st' := [.int (bP (thr (nI (((kDo K1 (oIll K1.1 a n 1)).2.2.1) - 1))))]) rfl ?_
                        refine r_if_neF C (y := 0) (tgt := 639) dL_law_574 (by decide) (fun z => ((thr_N (Nat.lt_of_le_of_lt hA87.N (by decide))) : ¬ (thr (nI (((kDo K1 (oIll K1.1 a n 1)).2.2.1) - 1)))) (z_neB.mp z)) ?_
                        refine r_aload_n C (i := 2) 16 dL_law_577 rfl rfl ?_
                        refine r_bipush C dL_law_578 kb_17 ?_
                        refine r_iconst C dL_law_580 ki_0 ?_
                        refine r_iconst C dL_law_581 ki_0 ?_
                        refine r_iconst C dL_law_582 ki_0 ?_
                        refine Ca.at hB.2.2.2.1 hB.2.1 (j := jj + 1 + 39 + 1 + 39 + 160 + 1) (K := 0) (rest := []) (pre := w86) (suf := [(qa, .inl (eI E, 6, .inl tf))]) (by omega) (cl_undo hst hAL821  (hq := push_ne)).l lk_L_call w_2_41 dL_law_583 rfl ⟨by decide, by decide⟩ (Nat.le_of_ble_eq_true rfl) ?_
                        rintro _ w88 ⟨rfl, hA89⟩
                        replace hA89 : Ark E β (kUn (kDo K1 (oIll K1.1 a n 1))) w88 := hA89
                        show Ω (jj + 1 + 39 + 1 + 39 + 160 + 1) (w86 ++ (w88 ++ [(qa, .inl (eI E, 6, .inl tf))])) [(18, .int (nI (sP K1.1))), (4, .int (nI 1)), (17, .int (nI (cntI K1.1 a 20))), (16, .int (nI 1)), (15, .ref qa), (14, .int (nI (sP K1.1))), (13, .int (nI (tkS K1.1 20))), (12, .int (nI (tak (oFl K1.1 a n) n) - nI (tak K1.1 n))), (11, .int (nI (chg K1.1 (oFl K1.1 a n) n))), (10, .int (nI n)), (9, .int (nI a)), (8, .int ((actR Kc x).1)), (7, .int (nI x)), (6, .int (nI i)), (5, .int (nI (8 + (t1 % 17)))), (3, .int (nI f0)), (2, .ref (β 0)), (1, .ref (α 0)), (0, .ref b)] [.int (nI (((kDo K1 (oIll K1.1 a n 1)).2.2.1) - 1))] 586
                        refine r_readS (rest := []) C (c_L_thrown (x := (nI (((kDo K1 (oIll K1.1 a n 1)).2.2.1) - 1))) ) lk_L_thrown w_4_236 [] dL_law_586 rfl rfl rfl ⟨by decide, by decide⟩ (Nat.le_of_ble_eq_true rfl) (st' := [.int (bP (thr (nI (((kDo K1 (oIll K1.1 a n 1)).2.2.1) - 1))))]) rfl ?_
                        refine r_if_neF C (y := 0) (tgt := 639) dL_law_589 (by decide) (fun z => ((thr_N (Nat.lt_of_le_of_lt hA89.N (by decide))) : ¬ (thr (nI (((kDo K1 (oIll K1.1 a n 1)).2.2.1) - 1)))) (z_neB.mp z)) ?_
                        obtain ⟨hG2e, he2e⟩ := Gk_back hG1 (gd_il (a := a) (n := n) (b := 1) hG1.1) (nx_il K1.1 a n 1)
                        obtain ⟨K2, hK2⟩ : ∃ K2 : Kt, K2 = (kUn (kDo K1 (oIll K1.1 a n 1))) := ⟨_, rfl⟩
                        have hA9K2 : Ark E α (kUn (kDo K1 (oIll K1.1 a n 1))) w86 := hA87
                        have hQ9K2 : Ark E β (kUn (kDo K1 (oIll K1.1 a n 1))) w88 := hA89
                        rw [← hK2] at hA9K2 hQ9K2
                        rw [← hK2] at hG2e he2e
                        have hG2 := hG2e
                        have he2 := he2e
                        have hg22 : 2 ≤ sA K2.1 := hG2.1.2
                        have hW2 := hA9K2.W
                        have htl2 := tkS_le hW2 (Nat.le_refl 20)
                        have hwA2 := hW2.A
                        refine r_aload_n C (i := 1) 17 dL_law_592 rfl rfl ?_
                        refine r_iconst C dL_law_593 ki_2 ?_
                        refine r_iconst C dL_law_594 ki_4 ?_
                        refine r_iconst C dL_law_595 ki_0 ?_
                        refine r_iconst C dL_law_596 ki_0 ?_
                        refine Ca.at hB.2.2.2.1 hB.2.1 (j := jj + 1 + 39 + 1 + 39 + 160 + 1) (K := 0) (rest := []) (pre := []) (suf := w88 ++ [(qa, .inl (eI E, 6, .inl tf))]) (by omega) (cl_about_4 hst hA9K2  ).l lk_L_call w_2_41 dL_law_597 rfl ⟨by decide, by decide⟩ (Nat.le_of_ble_eq_true rfl) ?_
                        rintro _ w90 ⟨rfl, hA91⟩
                        show Ω (jj + 1 + 39 + 1 + 39 + 160 + 1) (w90 ++ (w88 ++ [(qa, .inl (eI E, 6, .inl tf))])) [(18, .int (nI (sP K1.1))), (4, .int (nI 1)), (17, .int (nI (cntI K1.1 a 20))), (16, .int (nI 1)), (15, .ref qa), (14, .int (nI (sP K1.1))), (13, .int (nI (tkS K1.1 20))), (12, .int (nI (tak (oFl K1.1 a n) n) - nI (tak K1.1 n))), (11, .int (nI (chg K1.1 (oFl K1.1 a n) n))), (10, .int (nI n)), (9, .int (nI a)), (8, .int ((actR Kc x).1)), (7, .int (nI x)), (6, .int (nI i)), (5, .int (nI (8 + (t1 % 17)))), (3, .int (nI f0)), (2, .ref (β 0)), (1, .ref (α 0)), (0, .ref b)] [.int (nI (tkS K2.1 20))] 600
                        refine r_iload C (i := 13) 6 dL_law_600 rfl ?_
                        refine r_icmp_neF C (tgt := 639) dL_law_602 (by decide) (fun z => ((fun z => z (by rw [he2])) : ¬ (tkS K2.1 20 ≠ tkS K1.1 20)) ((c_neNN (by omega) (by omega)).mp z)) ?_
                        refine r_aload_n C (i := 1) 17 dL_law_605 rfl rfl ?_
                        refine r_aload_n C (i := 2) 16 dL_law_606 rfl rfl ?_
                        refine r_iload C (i := 7) 12 dL_law_607 rfl ?_
                        refine r_bipush C dL_law_609 kb_11 ?_
                        refine r_idiv (v := nI (x / 11)) C dL_law_611 (v_nz (by omega) (by omega)) (v_div (by omega) (by omega) (by omega)) ?_
                        refine r_iload C (i := 14) 5 dL_law_612 rfl ?_
                        refine r_irem (v := nI ((x / 11) % (sP K1.1))) C dL_law_614 (v_nz (by omega) (by omega)) (v_rem (by omega) (by omega) (by omega)) ?_
                        refine r_iload C (i := 7) 12 dL_law_615 rfl ?_
                        refine r_bipush C dL_law_617 kb_13 ?_
                        refine r_idiv (v := nI (x / 13)) C dL_law_619 (v_nz (by omega) (by omega)) (v_div (by omega) (by omega) (by omega)) ?_
                        refine r_aload_n C (i := 1) 17 dL_law_620 rfl rfl ?_
                        refine r_iconst C dL_law_621 ki_2 ?_
                        refine r_iconst C dL_law_622 ki_1 ?_
                        refine r_iconst C dL_law_623 ki_0 ?_
                        refine r_iconst C dL_law_624 ki_0 ?_
                        refine Ca.at hB.2.2.2.1 hB.2.1 (j := jj + 1 + 39 + 1 + 39 + 160 + 1) (K := 0) (rest := [.int (nI (x / 13)), .int (nI ((x / 11) % (sP K1.1))), .ref (β 0), .ref (α 0)]) (pre := []) (suf := w88 ++ [(qa, .inl (eI E, 6, .inl tf))]) (by omega) (cl_about_1 hst hA91  ).l lk_L_call w_2_41 dL_law_625 rfl ⟨by decide, by decide⟩ (Nat.le_of_ble_eq_true rfl) ?_
                        rintro _ w92 ⟨rfl, hA93⟩
                        show Ω (jj + 1 + 39 + 1 + 39 + 160 + 1) (w92 ++ (w88 ++ [(qa, .inl (eI E, 6, .inl tf))])) [(18, .int (nI (sP K1.1))), (4, .int (nI 1)), (17, .int (nI (cntI K1.1 a 20))), (16, .int (nI 1)), (15, .ref qa), (14, .int (nI (sP K1.1))), (13, .int (nI (tkS K1.1 20))), (12, .int (nI (tak (oFl K1.1 a n) n) - nI (tak K1.1 n))), (11, .int (nI (chg K1.1 (oFl K1.1 a n) n))), (10, .int (nI n)), (9, .int (nI a)), (8, .int ((actR Kc x).1)), (7, .int (nI x)), (6, .int (nI i)), (5, .int (nI (8 + (t1 % 17)))), (3, .int (nI f0)), (2, .ref (β 0)), (1, .ref (α 0)), (0, .ref b)] [.int (nI (sA K2.1)), .int (nI (x / 13)), .int (nI ((x / 11) % (sP K1.1))), .ref (β 0), .ref (α 0)] 628
                        refine r_irem (v := nI ((x / 13) % (sA K2.1))) C dL_law_628 (v_nz (by omega) (by omega)) (v_rem (by omega) (by omega) (by omega)) ?_
                        refine Ca.both hB.2.2.2.1 hB.2.1 (j := jj + 1 + 39 + 1 + 39 + 160 + 1) (K := 2) (rest := []) (suf := [(qa, .inl (eI E, 6, .inl tf))]) (by omega) (n_study hst hA93 hQ9K2 (a := (x / 13) % (sA K2.1)) (p := (x / 11) % (sP K1.1)) (hG := hG2) (hp := (by rw [he2]; exact Nat.mod_lt _ (by omega))) (ha := (Nat.mod_lt _ (by omega)))).l lk_L_study w_5_69 dL_law_629 rfl ⟨by decide, by decide⟩ (Nat.le_of_ble_eq_true rfl) ?_
                        rintro _ _ ⟨K4, w94, w96, rfl, rfl, hG4, he4, hA95, hA97⟩
                        refine ⟨w94, w96, rfl, ?_⟩
                        have C := hB.1 (jj + 1 + 39 + 1 + 39 + 160 + 1 + 2) (by omega)
                        show Ω (jj + 1 + 39 + 1 + 39 + 160 + 1 + 2) (w94 ++ (w96 ++ [(qa, .inl (eI E, 6, .inl tf))])) [(18, .int (nI (sP K1.1))), (4, .int (nI 1)), (17, .int (nI (cntI K1.1 a 20))), (16, .int (nI 1)), (15, .ref qa), (14, .int (nI (sP K1.1))), (13, .int (nI (tkS K1.1 20))), (12, .int (nI (tak (oFl K1.1 a n) n) - nI (tak K1.1 n))), (11, .int (nI (chg K1.1 (oFl K1.1 a n) n))), (10, .int (nI n)), (9, .int (nI a)), (8, .int ((actR Kc x).1)), (7, .int (nI x)), (6, .int (nI i)), (5, .int (nI (8 + (t1 % 17)))), (3, .int (nI f0)), (2, .ref (β 0)), (1, .ref (α 0)), (0, .ref b)] [.int (nI 1)] 632
                        refine r_if_eqF C (y := 0) (tgt := 639) dL_law_632 (by decide) (fun z => ((by decide) : ¬ (1 = 0)) ((z_eqN (by omega)).mp z)) ?_
                        refine r_iconst C dL_law_635 ki_1 ?_
                        refine r_goto C 640 dL_law_636 (by decide) ?_
                        refine r_istore C (lv' := [(4, .int (nI 1)), (18, .int (nI (sP K1.1))), (17, .int (nI (cntI K1.1 a 20))), (16, .int (nI 1)), (15, .ref qa), (14, .int (nI (sP K1.1))), (13, .int (nI (tkS K1.1 20))), (12, .int (nI (tak (oFl K1.1 a n) n) - nI (tak K1.1 n))), (11, .int (nI (chg K1.1 (oFl K1.1 a n) n))), (10, .int (nI n)), (9, .int (nI a)), (8, .int ((actR Kc x).1)), (7, .int (nI x)), (6, .int (nI i)), (5, .int (nI (8 + (t1 % 17)))), (3, .int (nI f0)), (2, .ref (β 0)), (1, .ref (α 0)), (0, .ref b)]) dL_law_640 (by decide) rfl ?_
                        refine r_iinc C (lv' := [(6, .int (nI (i + 1))), (4, .int (nI 1)), (18, .int (nI (sP K1.1))), (17, .int (nI (cntI K1.1 a 20))), (16, .int (nI 1)), (15, .ref qa), (14, .int (nI (sP K1.1))), (13, .int (nI (tkS K1.1 20))), (12, .int (nI (tak (oFl K1.1 a n) n) - nI (tak K1.1 n))), (11, .int (nI (chg K1.1 (oFl K1.1 a n) n))), (10, .int (nI n)), (9, .int (nI a)), (8, .int ((actR Kc x).1)), (7, .int (nI x)), (5, .int (nI (8 + (t1 % 17)))), (3, .int (nI f0)), (2, .ref (β 0)), (1, .ref (α 0)), (0, .ref b)]) (v := nI (i + 1)) 13 dL_law_642 rfl (v_inc _) (by decide) rfl ?_
                        refine r_goto C 146 dL_law_645 (by decide) ?_
                        refine hB.drop ?_
                        refine r_lv (lv' := [(6, .int (nI (i + 1))), (5, .int (nI (8 + (t1 % 17)))), (4, .int (nI 1)), (3, .int (nI f0)), (2, .ref (β 0)), (1, .ref (α 0)), (0, .ref b)]) C [0, 14, 1, 15, 16, 17, 18] rfl ?_
                        exact ih15 K4 (i + 1) (jj + 1 + 39 + 1 + 39 + 160 + 1 + 2) w94 w96 (by omega) (by omega) (by omega) hG4 hA95 hA97
                      · have hpp : p < sP K1.1 := by omega
                        have hclt := chg_lt (τ := oFl K1.1 a n) hW1 n
                        have hT1 := T_le hW1 hpp hn
                        have hT2 : T (kDo K1 (oIll K1.1 a n 1)).1 n p ≤ sA K1.1 := T_le (σ := oIll K1.1 a n 1) (oIll_wf hW1 (by decide) ha) hpp hn
                        refine r_iload C (i := 4) 1 dL_law_506 rfl ?_
                        refine r_if_eqF C (y := 0) (tgt := 557) dL_law_508 (by decide) (fun z => ((by decide) : ¬ (1 = 0)) ((z_eqN (by omega)).mp z)) ?_
                        refine r_iload C (i := 11) 8 dL_law_511 rfl ?_
                        refine r_iload C (i := 18) 0 dL_law_513 rfl ?_
                        refine r_ishr (v := nI ((chg K1.1 (oFl K1.1 a n) n) / 2 ^ p)) C dL_law_515 (v_shr (by omega) (by omega)) ?_
                        refine r_iconst C dL_law_516 ki_1 ?_
                        refine r_iand (v := nI (((chg K1.1 (oFl K1.1 a n) n) / 2 ^ p) % 2)) C dL_law_517 (v_and1 _) ?_
                        refine r_aload_n C (i := 1) 17 dL_law_518 rfl rfl ?_
                        refine r_iconst C dL_law_519 ki_4 ?_
                        refine r_iload C (i := 10) 9 dL_law_520 rfl ?_
                        refine r_iload C (i := 18) 0 dL_law_522 rfl ?_
                        refine r_iconst C dL_law_524 ki_1 ?_
                        refine Ca.at hB.2.2.2.1 hB.2.1 (j := jj + 1 + 39 + 1 + 39 + 160 + 1) (K := 0) (rest := [.int (nI (((chg K1.1 (oFl K1.1 a n) n) / 2 ^ p) % 2))]) (pre := []) (suf := wL821 ++ [(qa, .inl (eI E, 6, .inl tf))]) (by omega) (cl_bill_1 hst hAL820 (n := n) (p := p) (hn := (by omega)) (hp := hpp)).l lk_L_call w_2_41 dL_law_525 rfl ⟨by decide, by decide⟩ (Nat.le_of_ble_eq_true rfl) ?_
                        rintro _ w98 ⟨rfl, hA99⟩
                        show Ω (jj + 1 + 39 + 1 + 39 + 160 + 1) (w98 ++ (wL821 ++ [(qa, .inl (eI E, 6, .inl tf))])) [(18, .int (nI p)), (4, .int (nI 1)), (17, .int (nI (cntI K1.1 a 20))), (16, .int (nI 1)), (15, .ref qa), (14, .int (nI (sP K1.1))), (13, .int (nI (tkS K1.1 20))), (12, .int (nI (tak (oFl K1.1 a n) n) - nI (tak K1.1 n))), (11, .int (nI (chg K1.1 (oFl K1.1 a n) n))), (10, .int (nI n)), (9, .int (nI a)), (8, .int ((actR Kc x).1)), (7, .int (nI x)), (6, .int (nI i)), (5, .int (nI (8 + (t1 % 17)))), (3, .int (nI f0)), (2, .ref (β 0)), (1, .ref (α 0)), (0, .ref b)] [.int (mI (T ((kDo K1 (oIll K1.1 a n 1)).1) n p)), .int (nI (((chg K1.1 (oFl K1.1 a n) n) / 2 ^ p) % 2))] 528
                        refine r_aload C (i := 15) 4 dL_law_528 rfl ?_
                        refine r_iload C (i := 18) 0 dL_law_530 rfl ?_
                        refine r_iald (j := p) (v := mI (T K1.1 n p)) C 50 (at50 hA99.len hAL821.len) (by omega) (by decide) (htf p hpp) dL_law_532 ?_
                        refine r_icmp_ne C (c9 := T ((kDo K1 (oIll K1.1 a n 1)).1) n p ≠ T K1.1 n p) 540 dL_law_533 (by decide) (c_neMM (by omega) (by omega)) (fun h533_100 => ?_) (fun h533_100 => ?_)
                        · have hcb : chg K1.1 (oFl K1.1 a n) n / 2 ^ p % 2 = 1 := by
                            rw [chg_bit hpp, if_neg]
                            intro z
                            rw [hfl] at z
                            exact h533_100 z.symm
                          refine r_iconst C dL_law_540 ki_1 ?_
                          refine r_icmp_neF C (tgt := 548) dL_law_541 (by decide) (fun z => ((by omega) : ¬ (((chg K1.1 (oFl K1.1 a n) n) / 2 ^ p) % 2 ≠ 1)) ((c_neNN (by omega) (by omega)).mp z)) ?_
                          refine r_iconst C dL_law_544 ki_1 ?_
                          refine r_goto C 549 dL_law_545 (by decide) ?_
                          refine r_istore C (lv' := [(4, .int (nI 1)), (18, .int (nI p)), (17, .int (nI (cntI K1.1 a 20))), (16, .int (nI 1)), (15, .ref qa), (14, .int (nI (sP K1.1))), (13, .int (nI (tkS K1.1 20))), (12, .int (nI (tak (oFl K1.1 a n) n) - nI (tak K1.1 n))), (11, .int (nI (chg K1.1 (oFl K1.1 a n) n))), (10, .int (nI n)), (9, .int (nI a)), (8, .int ((actR Kc x).1)), (7, .int (nI x)), (6, .int (nI i)), (5, .int (nI (8 + (t1 % 17)))), (3, .int (nI f0)), (2, .ref (β 0)), (1, .ref (α 0)), (0, .ref b)]) dL_law_549 (by decide) rfl ?_
                          refine r_iinc C (lv' := [(18, .int (nI (p + 1))), (4, .int (nI 1)), (17, .int (nI (cntI K1.1 a 20))), (16, .int (nI 1)), (15, .ref qa), (14, .int (nI (sP K1.1))), (13, .int (nI (tkS K1.1 20))), (12, .int (nI (tak (oFl K1.1 a n) n) - nI (tak K1.1 n))), (11, .int (nI (chg K1.1 (oFl K1.1 a n) n))), (10, .int (nI n)), (9, .int (nI a)), (8, .int ((actR Kc x).1)), (7, .int (nI x)), (6, .int (nI i)), (5, .int (nI (8 + (t1 % 17)))), (3, .int (nI f0)), (2, .ref (β 0)), (1, .ref (α 0)), (0, .ref b)]) (v := nI (p + 1)) 1 dL_law_551 rfl (v_inc _) (by decide) rfl ?_
                          refine r_goto C 499 dL_law_554 (by decide) ?_
                          exact ih84 (p + 1) w98 wL821 (by omega) (by omega) hA99 hAL821
                        · have hcb : chg K1.1 (oFl K1.1 a n) n / 2 ^ p % 2 = 0 := by rw [chg_bit hpp, if_pos (by rw [hfl]; exact (Decidable.not_not.mp h533_100).symm)]
                          refine r_iconst C dL_law_536 ki_0 ?_
                          refine r_goto C 541 dL_law_537 (by decide) ?_
                          refine r_icmp_neF C (tgt := 548) dL_law_541 (by decide) (fun z => ((by omega) : ¬ (((chg K1.1 (oFl K1.1 a n) n) / 2 ^ p) % 2 ≠ 0)) ((c_neNN (by omega) (by omega)).mp z)) ?_
                          refine r_iconst C dL_law_544 ki_1 ?_
                          refine r_goto C 549 dL_law_545 (by decide) ?_
                          refine r_istore C (lv' := [(4, .int (nI 1)), (18, .int (nI p)), (17, .int (nI (cntI K1.1 a 20))), (16, .int (nI 1)), (15, .ref qa), (14, .int (nI (sP K1.1))), (13, .int (nI (tkS K1.1 20))), (12, .int (nI (tak (oFl K1.1 a n) n) - nI (tak K1.1 n))), (11, .int (nI (chg K1.1 (oFl K1.1 a n) n))), (10, .int (nI n)), (9, .int (nI a)), (8, .int ((actR Kc x).1)), (7, .int (nI x)), (6, .int (nI i)), (5, .int (nI (8 + (t1 % 17)))), (3, .int (nI f0)), (2, .ref (β 0)), (1, .ref (α 0)), (0, .ref b)]) dL_law_549 (by decide) rfl ?_
                          refine r_iinc C (lv' := [(18, .int (nI (p + 1))), (4, .int (nI 1)), (17, .int (nI (cntI K1.1 a 20))), (16, .int (nI 1)), (15, .ref qa), (14, .int (nI (sP K1.1))), (13, .int (nI (tkS K1.1 20))), (12, .int (nI (tak (oFl K1.1 a n) n) - nI (tak K1.1 n))), (11, .int (nI (chg K1.1 (oFl K1.1 a n) n))), (10, .int (nI n)), (9, .int (nI a)), (8, .int ((actR Kc x).1)), (7, .int (nI x)), (6, .int (nI i)), (5, .int (nI (8 + (t1 % 17)))), (3, .int (nI f0)), (2, .ref (β 0)), (1, .ref (α 0)), (0, .ref b)]) (v := nI (p + 1)) 1 dL_law_551 rfl (v_inc _) (by decide) rfl ?_
                          refine r_goto C 499 dL_law_554 (by decide) ?_
                          exact ih84 (p + 1) w98 wL821 (by omega) (by omega) hA99 hAL821
                  exact loop499_83 _ 0 w80 w78 (Nat.lt_succ_self _) (by omega) hA81 hA79
              · have hpp : p < sP K1.1 := by omega
                refine r_aload C (i := 15) 1 dL_law_353 rfl ?_
                refine r_iload C (i := 16) 0 dL_law_355 rfl ?_
                refine r_aload_n C (i := 1) 15 dL_law_357 rfl rfl ?_
                refine r_iconst C dL_law_358 ki_4 ?_
                refine r_iload C (i := 10) 6 dL_law_359 rfl ?_
                refine r_iload C (i := 16) 0 dL_law_361 rfl ?_
                refine r_iconst C dL_law_363 ki_1 ?_
                refine Ca.at hB.2.2.2.1 hB.2.1 (j := jj + 1 + 39 + 1 + 39 + 160 + 1) (K := 0) (rest := [.int (nI p), .ref qa]) (pre := []) (suf := wL401 ++ [(qa, .inl (eI E, 6, .inl tf))]) (by omega) (cl_bill_1 hst hAL400 (n := n) (p := p) (hn := (by omega)) (hp := (by omega))).l lk_L_call w_2_41 dL_law_364 rfl ⟨by decide, by decide⟩ (Nat.le_of_ble_eq_true rfl) ?_
                rintro _ w101 ⟨rfl, hA102⟩
                show Ω (jj + 1 + 39 + 1 + 39 + 160 + 1) (w101 ++ (wL401 ++ [(qa, .inl (eI E, 6, .inl tf))])) [(16, .int (nI p)), (15, .ref qa), (14, .int (nI (sP K1.1))), (13, .int (nI (tkS K1.1 20))), (12, .int (nI (tak (oFl K1.1 a n) n) - nI (tak K1.1 n))), (11, .int (nI (chg K1.1 (oFl K1.1 a n) n))), (10, .int (nI n)), (9, .int (nI a)), (4, .int (nI 1)), (8, .int ((actR Kc x).1)), (7, .int (nI x)), (6, .int (nI i)), (5, .int (nI (8 + (t1 % 17)))), (3, .int (nI f0)), (2, .ref (β 0)), (1, .ref (α 0)), (0, .ref b)] [.int (mI (T K1.1 n p)), .int (nI p), .ref qa] 367
                refine r_iast (j := p) (ws' := (w101 ++ (wL401 ++ [(qa, .inl (eI E, 6, .inl (upd tf p (mI (T K1.1 n p)))))]))) C 50 (at50 hA102.len hAL401.len) (by omega) (by decide) (set50 hA102.len hAL401.len) dL_law_367 ?_
                refine r_iinc C (lv' := [(16, .int (nI (p + 1))), (15, .ref qa), (14, .int (nI (sP K1.1))), (13, .int (nI (tkS K1.1 20))), (12, .int (nI (tak (oFl K1.1 a n) n) - nI (tak K1.1 n))), (11, .int (nI (chg K1.1 (oFl K1.1 a n) n))), (10, .int (nI n)), (9, .int (nI a)), (4, .int (nI 1)), (8, .int ((actR Kc x).1)), (7, .int (nI x)), (6, .int (nI i)), (5, .int (nI (8 + (t1 % 17)))), (3, .int (nI f0)), (2, .ref (β 0)), (1, .ref (α 0)), (0, .ref b)]) (v := nI (p + 1)) 0 dL_law_368 rfl (v_inc _) (by decide) rfl ?_
                refine r_goto C 346 dL_law_371 (by decide) ?_
                exact ih42 (p + 1) (upd tf p (mI (T K1.1 n p))) w101 wL401 (by omega) (by omega) (tf_s htf) hA102 hAL401
          exact loop346_41 _ 0 (fun _ => nI 0) w38 wJ258_1 (Nat.lt_succ_self _) (by omega) (fun q hq => absurd hq (Nat.not_lt_zero q)) hA39 hJ258_1
        refine r_iload C (i := 6) 2 dL_law_226 rfl ?_
        refine r_iconst C dL_law_228 ki_2 ?_
        refine r_irem (v := nI (i % 2)) C dL_law_229 (v_nz (by omega) (by omega)) (v_rem (by omega) (by omega) (by omega)) ?_
        refine r_if_ne C (y := 0) (c9 := i % 2 ≠ 0) 247 dL_law_230 (by decide) (z_neN (by omega)) (fun h230_103 => ?_) (fun h230_103 => ?_)
        · refine r_aload_n C (i := 2) 6 dL_law_247 rfl rfl ?_
          refine r_iload C (i := 7) 1 dL_law_248 rfl ?_
          refine r_iconst C dL_law_250 ki_5 ?_
          refine r_idiv (v := nI (x / 5)) C dL_law_251 (v_nz (by omega) (by omega)) (v_div (by omega) (by omega) (by omega)) ?_
          refine Ca.at hB.2.2.2.1 hB.2.1 (j := jj + 1 + 39 + 1 + 39 + 160) (K := 0) (rest := []) (pre := w25) (suf := []) (by omega) (n_holds hst hA28 (x := x / 5) (h1 := (by omega)) (h2 := (by omega)) (hx := (by omega))).l lk_L_holds w_5_53 dL_law_252 rfl ⟨by decide, by decide⟩ (Nat.le_of_ble_eq_true rfl) ?_
          rintro _ w104 ⟨rfl, hA105⟩
          show Ω (jj + 1 + 39 + 1 + 39 + 160) (w25 ++ (w104 ++ [])) [(8, .int ((actR Kc x).1)), (7, .int (nI x)), (6, .int (nI i)), (5, .int (nI (8 + (t1 % 17)))), (4, .int (nI 1)), (3, .int (nI f0)), (2, .ref (β 0)), (1, .ref (α 0)), (0, .ref b)] [.int (nI 1)] 255
          refine r_if_eqF C (y := 0) (tgt := 262) dL_law_255 (by decide) (fun z => ((by decide) : ¬ (1 = 0)) ((z_eqN (by omega)).mp z)) ?_
          exact join258_29 w25 w104 hA26 hA105
        · refine r_aload_n C (i := 1) 7 dL_law_233 rfl rfl ?_
          refine r_iload C (i := 7) 1 dL_law_234 rfl ?_
          refine r_iconst C dL_law_236 ki_3 ?_
          refine r_idiv (v := nI (x / 3)) C dL_law_237 (v_nz (by omega) (by omega)) (v_div (by omega) (by omega) (by omega)) ?_
          refine Ca.at hB.2.2.2.1 hB.2.1 (j := jj + 1 + 39 + 1 + 39 + 160) (K := 0) (rest := []) (pre := []) (suf := w27 ++ []) (by omega) (n_holds hst hA26 (x := x / 3) (h1 := (by omega)) (h2 := (by omega)) (hx := (by omega))).l lk_L_holds w_5_53 dL_law_238 rfl ⟨by decide, by decide⟩ (Nat.le_of_ble_eq_true rfl) ?_
          rintro _ w106 ⟨rfl, hA107⟩
          show Ω (jj + 1 + 39 + 1 + 39 + 160) (w106 ++ (w27 ++ [])) [(8, .int ((actR Kc x).1)), (7, .int (nI x)), (6, .int (nI i)), (5, .int (nI (8 + (t1 % 17)))), (4, .int (nI 1)), (3, .int (nI f0)), (2, .ref (β 0)), (1, .ref (α 0)), (0, .ref b)] [.int (nI 1)] 241
          refine r_if_eqF C (y := 0) (tgt := 262) dL_law_241 (by decide) (fun z => ((by decide) : ¬ (1 = 0)) ((z_eqN (by omega)).mp z)) ?_
          refine r_goto C 258 dL_law_244 (by decide) ?_
          exact join258_29 w106 w27 hA107 hA28
  exact loop146_14 _ (kDo (kDo (kDo K00 (oPart K00.1)) (oHire ((kDo K00 (oPart K00.1)).1) (((f0 % 10) + 0) % 10))) (oHire ((kDo (kDo K00 (oPart K00.1)) (oHire ((kDo K00 (oPart K00.1)).1) (((f0 % 10) + 0) % 10))).1) (((f0 % 10) + 3) % 10))) 0 0 w9 w11 (Nat.lt_succ_self _) (by omega) (by omega) hG0 hA10 hA12
