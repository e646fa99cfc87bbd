abbrev thr (x : Int32) : Prop := x = (-9999001) ∨ x = (-9999002) ∨ x = (-9999003)
theorem neg_toInt {k : Nat} (hk : k < 2147483647) : (mI 0 - nI k).toInt = -1 - (k : Int) := by
  rw [Int32.toInt_sub, mI_toInt (by decide), nI_toInt (by omega)]
  rw [Int.bmod_eq_of_le (by omega) (by omega)]
  omega
theorem vI_mn {k n : Nat} (hk : k < 2147483647) : ¬ vI (mI 0 - nI k) n := fun z => by
  have h := z.1
  rw [neg_toInt hk] at h
  omega
theorem lt_neg {k : Nat} (hk : k < 2147483647) : mI 0 - nI k < 0 := by
  have h0 : (0 : Int32).toInt = 0 := by decide
  rw [Int32.lt_iff_toInt_lt, neg_toInt hk, h0]; omega
theorem vI_out {k n : Nat} (hk : k < 2147483648) (h : n ≤ k) : ¬ vI (nI k) n := fun z => by
  rw [vI_N hk] at z; omega
theorem cl_lay_nx {l : Launch} {E : Ev} (hst : l.stackTraces = false) {α : Nat → Nat} {σ : Sg} {hs : Nat → Sg} {cnt : Nat} {ks : Nat → Sg} {kd : Nat → Nat} {w : va_W} (hA : Ar E α σ hs cnt ks kd w) {k : Nat}{x : Int32}(hk : k < 2) (hx : ¬ vI x 100) {u3 : Int32} : CtN l E yL_call cL_call 5 (some FieldType.int) none 9 195 1 [.ref (α 0), .int (nI 16), .int (nI k), .int x, .int u3] w (fun v9 w9 => v9 = some (.int (-9999002)) ∧ Ar E α σ hs cnt ks kd w9) := by
  rcases (by omega : k = 0 ∨ k = 1) with rfl | rfl
  · exact cl_lay_nb0 hst hA hx
  · exact cl_lay_nb1 hst hA (fun z => hx ⟨z.1, by have := z.2; omega⟩)
set_option maxRecDepth 100000 in
set_option maxHeartbeats 1000000 in
theorem c_L_thrown {l : Launch} {E : Ev} {x : Int32} : Cr l E yL_thrown cL_thrown 1 (some FieldType.boolean) 0 0 [.int x] [] (some (.int (bP (thr x)))) := by
  refine ct_of (by decide +kernel) (Nat.le_of_ble_eq_true rfl) (fun ω C RT => ?_)
  show ω [] [(0, .int x)] [] 0
  refine r_iload_n C (i := 0) 0 dL_thrown_0 rfl rfl ?_
  refine r_ldc (v := (-9999001)) C dL_thrown_1 w_2_40 ?_
  refine r_icmp_eq C (c9 := x = (-9999001 : Int32)) 18 dL_thrown_3 (by decide) Iff.rfl (fun h3_1 => ?_) (fun h3_1 => ?_)
  · refine r_iconst C dL_thrown_18 ki_1 ?_
    refine r_goto C 23 dL_thrown_19 (by decide) ?_
    exact RT.1 _ _ _ _ _ dL_thrown_23 rfl nar_1 (rd_i (bP_t (by first | exact Or.inl ‹_› | exact Or.inr (Or.inl ‹_›) | exact Or.inr (Or.inr ‹_›) | exact Or.inr (Or.inr (Decidable.not_not.mp ‹_›))))) rfl
  · refine r_iload_n C (i := 0) 0 dL_thrown_6 rfl rfl ?_
    refine r_ldc (v := (-9999002)) C dL_thrown_7 w_2_97 ?_
    refine r_icmp_eq C (c9 := x = (-9999002 : Int32)) 18 dL_thrown_9 (by decide) Iff.rfl (fun h9_2 => ?_) (fun h9_2 => ?_)
    · refine r_iconst C dL_thrown_18 ki_1 ?_
      refine r_goto C 23 dL_thrown_19 (by decide) ?_
      exact RT.1 _ _ _ _ _ dL_thrown_23 rfl nar_1 (rd_i (bP_t (by first | exact Or.inl ‹_› | exact Or.inr (Or.inl ‹_›) | exact Or.inr (Or.inr ‹_›) | exact Or.inr (Or.inr (Decidable.not_not.mp ‹_›))))) rfl
    · refine r_iload_n C (i := 0) 0 dL_thrown_12 rfl rfl ?_
      refine r_ldc (v := (-9999003)) C dL_thrown_13 w_2_98 ?_
      refine r_icmp_ne C (c9 := x ≠ (-9999003 : Int32)) 22 dL_thrown_15 (by decide) Iff.rfl (fun h15_3 => ?_) (fun h15_3 => ?_)
      · refine r_iconst C dL_thrown_22 ki_0 ?_
        exact RT.1 _ _ _ _ _ dL_thrown_23 rfl nar_0 (rd_i (bP_f (fun z => by rcases z with z | z | z <;> contradiction))) rfl
      · refine r_iconst C dL_thrown_18 ki_1 ?_
        refine r_goto C 23 dL_thrown_19 (by decide) ?_
        exact RT.1 _ _ _ _ _ dL_thrown_23 rfl nar_1 (rd_i (bP_t (by first | exact Or.inl ‹_› | exact Or.inr (Or.inl ‹_›) | exact Or.inr (Or.inr ‹_›) | exact Or.inr (Or.inr (Decidable.not_not.mp ‹_›))))) rfl
set_option maxRecDepth 100000 in
set_option maxHeartbeats 1000000 in
theorem n_refuses {l : Launch} {E : Ev} (hst : l.stackTraces = false) {α : Nat → Nat} {σ : Sg} {hs : Nat → Sg} {cnt : Nat} {ks : Nat → Sg} {kd : Nat → Nat} {w : va_W} (hA : Ar E α σ hs cnt ks kd w) (h1 : 1 ≤ sP σ) (h2 : 1 ≤ sA σ) {x : Nat} (hx : x < 100000) : CtN l E yL_refuses cL_refuses 6 (some FieldType.boolean) none 10 219 39 [.ref (α 0), .int (nI x)] w (fun v9 w9 => v9 = some (.int (nI 1)) ∧ Ar E α σ hs cnt ks kd w9) := by
  have hW := hA.W
  have hwP := hW.P
  have hwA := hW.A
  have hwS := hW.S
  refine ctn_of (by decide +kernel) (Nat.le_of_ble_eq_true rfl) (fun Ω hB => ?_)
  have C := hB.1 0 (by omega)
  have RT := hB.2.2.1 0 (by omega)
  show Ω 0 w [(0, .ref (α 0)), (1, .int (nI x))] [] 0
  refine r_aload_n C (i := 0) 0 dL_refuses_0 rfl rfl ?_
  refine r_iconst C dL_refuses_1 ki_2 ?_
  refine r_iconst C dL_refuses_2 ki_0 ?_
  refine r_iconst C dL_refuses_3 ki_0 ?_
  refine r_iconst C dL_refuses_4 ki_0 ?_
  refine Ca.on hB.2.2.2 hB.2.1 (j := 0) (K := 0) (rest := []) (by omega) (cl_about_0 hst hA  ).l lk_L_call w_2_41 dL_refuses_5 rfl ⟨by decide, by decide⟩ (Nat.le_of_ble_eq_true rfl) ?_
  rintro _ w1 ⟨rfl, hA2⟩
  show Ω 0 w1 [(0, .ref (α 0)), (1, .int (nI x))] [.int (nI (sP σ))] 8
  refine r_iload_n C (i := 1) 1 dL_refuses_8 rfl rfl ?_
  refine r_bipush C dL_refuses_9 kb_50 ?_
  refine r_irem (v := nI (x % 50)) C dL_refuses_11 (v_nz (by omega) (by omega)) (v_rem (by omega) (by omega) (by omega)) ?_
  refine r_iadd (v := nI ((sP σ) + (x % 50))) C dL_refuses_12 (nI_add _ _) ?_
  refine r_istore_n C (lv' := [(2, .int (nI ((sP σ) + (x % 50)))), (0, .ref (α 0)), (1, .int (nI x))]) dL_refuses_13 rfl (by decide) rfl ?_
  refine r_aload_n C (i := 0) 1 dL_refuses_14 rfl rfl ?_
  refine r_iconst C dL_refuses_15 ki_2 ?_
  refine r_iconst C dL_refuses_16 ki_1 ?_
  refine r_iconst C dL_refuses_17 ki_0 ?_
  refine r_iconst C dL_refuses_18 ki_0 ?_
  refine Ca.on hB.2.2.2 hB.2.1 (j := 0) (K := 0) (rest := []) (by omega) (cl_about_1 hst hA2  ).l lk_L_call w_2_41 dL_refuses_19 rfl ⟨by decide, by decide⟩ (Nat.le_of_ble_eq_true rfl) ?_
  rintro _ w3 ⟨rfl, hA4⟩
  show Ω 0 w3 [(2, .int (nI ((sP σ) + (x % 50)))), (0, .ref (α 0)), (1, .int (nI x))] [.int (nI (sA σ))] 22
  refine r_iload_n C (i := 1) 2 dL_refuses_22 rfl rfl ?_
  refine r_bipush C dL_refuses_23 kb_50 ?_
  refine r_irem (v := nI (x % 50)) C dL_refuses_25 (v_nz (by omega) (by omega)) (v_rem (by omega) (by omega) (by omega)) ?_
  refine r_iadd (v := nI ((sA σ) + (x % 50))) C dL_refuses_26 (nI_add _ _) ?_
  refine r_istore_n C (lv' := [(3, .int (nI ((sA σ) + (x % 50)))), (2, .int (nI ((sP σ) + (x % 50)))), (0, .ref (α 0)), (1, .int (nI x))]) dL_refuses_27 rfl (by decide) rfl ?_
  refine r_aload_n C (i := 0) 2 dL_refuses_28 rfl rfl ?_
  refine r_iconst C dL_refuses_29 ki_2 ?_
  refine r_iconst C dL_refuses_30 ki_2 ?_
  refine r_iconst C dL_refuses_31 ki_0 ?_
  refine r_iconst C dL_refuses_32 ki_0 ?_
  refine Ca.on hB.2.2.2 hB.2.1 (j := 0) (K := 0) (rest := []) (by omega) (cl_about_2 hst hA4  ).l lk_L_call w_2_41 dL_refuses_33 rfl ⟨by decide, by decide⟩ (Nat.le_of_ble_eq_true rfl) ?_
  rintro _ w5 ⟨rfl, hA6⟩
  show Ω 0 w5 [(3, .int (nI ((sA σ) + (x % 50)))), (2, .int (nI ((sP σ) + (x % 50)))), (0, .ref (α 0)), (1, .int (nI x))] [.int (nI (sS σ))] 36
  refine r_iload_n C (i := 1) 3 dL_refuses_36 rfl rfl ?_
  refine r_bipush C dL_refuses_37 kb_50 ?_
  refine r_irem (v := nI (x % 50)) C dL_refuses_39 (v_nz (by omega) (by omega)) (v_rem (by omega) (by omega) (by omega)) ?_
  refine r_iadd (v := nI ((sS σ) + (x % 50))) C dL_refuses_40 (nI_add _ _) ?_
  refine r_istore C (lv' := [(4, .int (nI ((sS σ) + (x % 50)))), (3, .int (nI ((sA σ) + (x % 50)))), (2, .int (nI ((sP σ) + (x % 50)))), (0, .ref (α 0)), (1, .int (nI x))]) dL_refuses_41 (by decide) rfl ?_
  have join65_7 : ∀ (no : Int32), (¬ vI no 20) → Ω 0 w5 [(4, .int (nI ((sS σ) + (x % 50)))), (3, .int (nI ((sA σ) + (x % 50)))), (2, .int (nI ((sP σ) + (x % 50)))), (0, .ref (α 0)), (1, .int (nI x))] [.int no] 65 := by
    intro no hno
    refine r_istore C (lv' := [(5, .int no), (4, .int (nI ((sS σ) + (x % 50)))), (3, .int (nI ((sA σ) + (x % 50)))), (2, .int (nI ((sP σ) + (x % 50)))), (0, .ref (α 0)), (1, .int (nI x))]) dL_refuses_65 (by decide) rfl ?_
    have join92_8 : ∀ (ap : Int32), (¬ vI ap 256) → Ω 0 w5 [(5, .int no), (4, .int (nI ((sS σ) + (x % 50)))), (3, .int (nI ((sA σ) + (x % 50)))), (2, .int (nI ((sP σ) + (x % 50)))), (0, .ref (α 0)), (1, .int (nI x))] [.int ap, .int (nI 0), .ref (α 0)] 92 := by
      intro ap hap
      refine r_iconst C dL_refuses_92 ki_0 ?_
      refine r_iconst C dL_refuses_93 ki_0 ?_
      refine Ca.on hB.2.2.2 hB.2.1 (j := 0) (K := 1) (rest := []) (by omega) (cl_append_no hst hA6 (x := ap) (hx := hap)).l lk_L_call w_2_41 dL_refuses_94 rfl ⟨by decide, by decide⟩ (Nat.le_of_ble_eq_true rfl) ?_
      rintro _ w9 ⟨rfl, hA10⟩
      have C := hB.1 1 (by omega)
      have RT := hB.2.2.1 1 (by omega)
      show Ω 1 w9 [(5, .int no), (4, .int (nI ((sS σ) + (x % 50)))), (3, .int (nI ((sA σ) + (x % 50)))), (2, .int (nI ((sP σ) + (x % 50)))), (0, .ref (α 0)), (1, .int (nI x))] [.int (-9999002)] 97
      refine r_ldc (v := (-9999002)) C dL_refuses_97 w_2_97 ?_
      refine r_icmp_neF C (tgt := 744) dL_refuses_99 (by decide) (fun z => ((fun z => z rfl) : ¬ ((-9999002) ≠ (-9999002 : Int32))) (Iff.rfl.mp z)) ?_
      refine r_aload_n C (i := 0) 4 dL_refuses_102 rfl rfl ?_
      refine r_iconst C dL_refuses_103 ki_2 ?_
      refine r_bipush C dL_refuses_104 kb_7 ?_
      refine r_iload_n C (i := 1) 5 dL_refuses_106 rfl rfl ?_
      refine r_bipush C dL_refuses_107 kb_50 ?_
      refine r_irem (v := nI (x % 50)) C dL_refuses_109 (v_nz (by omega) (by omega)) (v_rem (by omega) (by omega) (by omega)) ?_
      refine r_iadd (v := nI (7 + (x % 50))) C dL_refuses_110 (nI_add _ _) ?_
      refine r_iconst C dL_refuses_111 ki_0 ?_
      refine r_iconst C dL_refuses_112 ki_0 ?_
      refine Ca.on hB.2.2.2 hB.2.1 (j := 1) (K := 1) (rest := []) (by omega) (cl_about_no hst hA10 (x := (nI (7 + (x % 50)))) (hx := (vI_out (by omega) (by omega)))).l lk_L_call w_2_41 dL_refuses_113 rfl ⟨by decide, by decide⟩ (Nat.le_of_ble_eq_true rfl) ?_
      rintro _ w11 ⟨rfl, hA12⟩
      have C := hB.1 2 (by omega)
      have RT := hB.2.2.1 2 (by omega)
      show Ω 2 w11 [(5, .int no), (4, .int (nI ((sS σ) + (x % 50)))), (3, .int (nI ((sA σ) + (x % 50)))), (2, .int (nI ((sP σ) + (x % 50)))), (0, .ref (α 0)), (1, .int (nI x))] [.int (-9999002)] 116
      refine r_ldc (v := (-9999002)) C dL_refuses_116 w_2_97 ?_
      refine r_icmp_neF C (tgt := 744) dL_refuses_118 (by decide) (fun z => ((fun z => z rfl) : ¬ ((-9999002) ≠ (-9999002 : Int32))) (Iff.rfl.mp z)) ?_
      refine r_aload_n C (i := 0) 4 dL_refuses_121 rfl rfl ?_
      refine r_iconst C dL_refuses_122 ki_3 ?_
      refine r_iload C (i := 5) 0 dL_refuses_123 rfl ?_
      refine r_iconst C dL_refuses_125 ki_0 ?_
      refine r_iconst C dL_refuses_126 ki_0 ?_
      refine Ca.on hB.2.2.2 hB.2.1 (j := 2) (K := 1) (rest := []) (by omega) (cl_played_na hst hA12 (x := no) (y := (nI 0)) (hx := hno)).l lk_L_call w_2_41 dL_refuses_127 rfl ⟨by decide, by decide⟩ (Nat.le_of_ble_eq_true rfl) ?_
      rintro _ w13 ⟨rfl, hA14⟩
      have C := hB.1 3 (by omega)
      have RT := hB.2.2.1 3 (by omega)
      show Ω 3 w13 [(5, .int no), (4, .int (nI ((sS σ) + (x % 50)))), (3, .int (nI ((sA σ) + (x % 50)))), (2, .int (nI ((sP σ) + (x % 50)))), (0, .ref (α 0)), (1, .int (nI x))] [.int (-9999001)] 130
      refine r_ldc (v := (-9999001)) C dL_refuses_130 w_2_40 ?_
      refine r_icmp_neF C (tgt := 744) dL_refuses_132 (by decide) (fun z => ((fun z => z rfl) : ¬ ((-9999001) ≠ (-9999001 : Int32))) (Iff.rfl.mp z)) ?_
      refine r_aload_n C (i := 0) 4 dL_refuses_135 rfl rfl ?_
      refine r_iconst C dL_refuses_136 ki_3 ?_
      refine r_iload_n C (i := 1) 5 dL_refuses_137 rfl rfl ?_
      refine r_bipush C dL_refuses_138 kb_20 ?_
      refine r_irem (v := nI (x % 20)) C dL_refuses_140 (v_nz (by omega) (by omega)) (v_rem (by omega) (by omega) (by omega)) ?_
      refine r_iload_n C (i := 2) 3 dL_refuses_141 rfl rfl ?_
      refine r_iconst C dL_refuses_142 ki_0 ?_
      refine Ca.on hB.2.2.2 hB.2.1 (j := 3) (K := 1) (rest := []) (by omega) (cl_played_nb hst hA14 (n := x % 20) (x := (nI ((sP σ) + (x % 50)))) (hn := (by omega)) (hx := (vI_out (by omega) (by omega)))).l lk_L_call w_2_41 dL_refuses_143 rfl ⟨by decide, by decide⟩ (Nat.le_of_ble_eq_true rfl) ?_
      rintro _ w15 ⟨rfl, hA16⟩
      have C := hB.1 4 (by omega)
      have RT := hB.2.2.1 4 (by omega)
      show Ω 4 w15 [(5, .int no), (4, .int (nI ((sS σ) + (x % 50)))), (3, .int (nI ((sA σ) + (x % 50)))), (2, .int (nI ((sP σ) + (x % 50)))), (0, .ref (α 0)), (1, .int (nI x))] [.int (-9999001)] 146
      refine r_ldc (v := (-9999001)) C dL_refuses_146 w_2_40 ?_
      refine r_icmp_neF C (tgt := 744) dL_refuses_148 (by decide) (fun z => ((fun z => z rfl) : ¬ ((-9999001) ≠ (-9999001 : Int32))) (Iff.rfl.mp z)) ?_
      refine r_aload_n C (i := 0) 4 dL_refuses_151 rfl rfl ?_
      refine r_iconst C dL_refuses_152 ki_4 ?_
      refine r_iload C (i := 5) 0 dL_refuses_153 rfl ?_
      refine r_iconst C dL_refuses_155 ki_0 ?_
      refine r_bipush C dL_refuses_156 kb_9 ?_
      refine Ca.on hB.2.2.2 hB.2.1 (j := 4) (K := 1) (rest := []) (by omega) (cl_bill_na hst hA16 (x := no) (y := (nI 0)) (z := (nI 9)) (hx := hno)).l lk_L_call w_2_41 dL_refuses_158 rfl ⟨by decide, by decide⟩ (Nat.le_of_ble_eq_true rfl) ?_
      rintro _ w17 ⟨rfl, hA18⟩
      have C := hB.1 5 (by omega)
      have RT := hB.2.2.1 5 (by omega)
      show Ω 5 w17 [(5, .int no), (4, .int (nI ((sS σ) + (x % 50)))), (3, .int (nI ((sA σ) + (x % 50)))), (2, .int (nI ((sP σ) + (x % 50)))), (0, .ref (α 0)), (1, .int (nI x))] [.int (-9999001)] 161
      refine r_ldc (v := (-9999001)) C dL_refuses_161 w_2_40 ?_
      refine r_icmp_neF C (tgt := 744) dL_refuses_163 (by decide) (fun z => ((fun z => z rfl) : ¬ ((-9999001) ≠ (-9999001 : Int32))) (Iff.rfl.mp z)) ?_
      refine r_aload_n C (i := 0) 4 dL_refuses_166 rfl rfl ?_
      refine r_iconst C dL_refuses_167 ki_4 ?_
      refine r_iload_n C (i := 1) 5 dL_refuses_168 rfl rfl ?_
      refine r_bipush C dL_refuses_169 kb_20 ?_
      refine r_irem (v := nI (x % 20)) C dL_refuses_171 (v_nz (by omega) (by omega)) (v_rem (by omega) (by omega) (by omega)) ?_
      refine r_iconst C dL_refuses_172 ki_0 ?_
      refine r_iconst C dL_refuses_173 ki_4 ?_
      refine r_iload_n C (i := 1) 5 dL_refuses_174 rfl rfl ?_
      refine r_bipush C dL_refuses_175 kb_9 ?_
      refine r_irem (v := nI (x % 9)) C dL_refuses_177 (v_nz (by omega) (by omega)) (v_rem (by omega) (by omega) (by omega)) ?_
      refine r_iadd (v := nI (4 + (x % 9))) C dL_refuses_178 (nI_add _ _) ?_
      refine Ca.on hB.2.2.2 hB.2.1 (j := 5) (K := 1) (rest := []) (by omega) (cl_bill_nc hst hA18 (n := x % 20) (p := 0) (x := (nI (4 + (x % 9)))) (hn := (by omega)) (hp := (by omega)) (hx := (vI_out (by omega) (by omega)))).l lk_L_call w_2_41 dL_refuses_179 rfl ⟨by decide, by decide⟩ (Nat.le_of_ble_eq_true rfl) ?_
      rintro _ w19 ⟨rfl, hA20⟩
      have C := hB.1 6 (by omega)
      have RT := hB.2.2.1 6 (by omega)
      show Ω 6 w19 [(5, .int no), (4, .int (nI ((sS σ) + (x % 50)))), (3, .int (nI ((sA σ) + (x % 50)))), (2, .int (nI ((sP σ) + (x % 50)))), (0, .ref (α 0)), (1, .int (nI x))] [.int (-9999002)] 182
      refine r_ldc (v := (-9999002)) C dL_refuses_182 w_2_97 ?_
      refine r_icmp_neF C (tgt := 744) dL_refuses_184 (by decide) (fun z => ((fun z => z rfl) : ¬ ((-9999002) ≠ (-9999002 : Int32))) (Iff.rfl.mp z)) ?_
      refine r_aload_n C (i := 0) 4 dL_refuses_187 rfl rfl ?_
      refine r_iconst C dL_refuses_188 ki_5 ?_
      refine r_iload C (i := 5) 0 dL_refuses_189 rfl ?_
      refine r_bipush C dL_refuses_191 kb_9 ?_
      refine r_iconst C dL_refuses_193 ki_0 ?_
      refine Ca.on hB.2.2.2 hB.2.1 (j := 6) (K := 1) (rest := []) (by omega) (cl_night_na hst hA20 (x := no) (y := (nI 9)) (hx := hno)).l lk_L_call w_2_41 dL_refuses_194 rfl ⟨by decide, by decide⟩ (Nat.le_of_ble_eq_true rfl) ?_
      rintro _ w21 ⟨rfl, hA22⟩
      have C := hB.1 7 (by omega)
      have RT := hB.2.2.1 7 (by omega)
      show Ω 7 w21 [(5, .int no), (4, .int (nI ((sS σ) + (x % 50)))), (3, .int (nI ((sA σ) + (x % 50)))), (2, .int (nI ((sP σ) + (x % 50)))), (0, .ref (α 0)), (1, .int (nI x))] [.int (-9999001)] 197
      refine r_ldc (v := (-9999001)) C dL_refuses_197 w_2_40 ?_
      refine r_icmp_neF C (tgt := 744) dL_refuses_199 (by decide) (fun z => ((fun z => z rfl) : ¬ ((-9999001) ≠ (-9999001 : Int32))) (Iff.rfl.mp z)) ?_
      refine r_aload_n C (i := 0) 4 dL_refuses_202 rfl rfl ?_
      refine r_iconst C dL_refuses_203 ki_5 ?_
      refine r_iload_n C (i := 1) 5 dL_refuses_204 rfl rfl ?_
      refine r_bipush C dL_refuses_205 kb_20 ?_
      refine r_irem (v := nI (x % 20)) C dL_refuses_207 (v_nz (by omega) (by omega)) (v_rem (by omega) (by omega) (by omega)) ?_
      refine r_iconst C dL_refuses_208 ki_5 ?_
      refine r_iload_n C (i := 1) 5 dL_refuses_209 rfl rfl ?_
      refine r_bipush C dL_refuses_210 kb_9 ?_
      refine r_irem (v := nI (x % 9)) C dL_refuses_212 (v_nz (by omega) (by omega)) (v_rem (by omega) (by omega) (by omega)) ?_
      refine r_iadd (v := nI (5 + (x % 9))) C dL_refuses_213 (nI_add _ _) ?_
      refine r_iconst C dL_refuses_214 ki_0 ?_
      refine Ca.on hB.2.2.2 hB.2.1 (j := 7) (K := 1) (rest := []) (by omega) (cl_night_nb hst hA22 (n := x % 20) (x := (nI (5 + (x % 9)))) (hn := (by omega)) (hx := (vI_out (by omega) (by omega)))).l lk_L_call w_2_41 dL_refuses_215 rfl ⟨by decide, by decide⟩ (Nat.le_of_ble_eq_true rfl) ?_
      rintro _ w23 ⟨rfl, hA24⟩
      have C := hB.1 8 (by omega)
      have RT := hB.2.2.1 8 (by omega)
      show Ω 8 w23 [(5, .int no), (4, .int (nI ((sS σ) + (x % 50)))), (3, .int (nI ((sA σ) + (x % 50)))), (2, .int (nI ((sP σ) + (x % 50)))), (0, .ref (α 0)), (1, .int (nI x))] [.int (-9999002)] 218
      refine r_ldc (v := (-9999002)) C dL_refuses_218 w_2_97 ?_
      refine r_icmp_neF C (tgt := 744) dL_refuses_220 (by decide) (fun z => ((fun z => z rfl) : ¬ ((-9999002) ≠ (-9999002 : Int32))) (Iff.rfl.mp z)) ?_
      refine r_aload_n C (i := 0) 4 dL_refuses_223 rfl rfl ?_
      refine r_bipush C dL_refuses_224 kb_6 ?_
      refine r_iload_n C (i := 3) 2 dL_refuses_226 rfl rfl ?_
      refine r_bipush C dL_refuses_227 kb_9 ?_
      refine r_iconst C dL_refuses_229 ki_0 ?_
      refine Ca.on hB.2.2.2 hB.2.1 (j := 8) (K := 1) (rest := []) (by omega) (cl_actor_na hst hA24 (x := (nI ((sA σ) + (x % 50)))) (y := (nI 9)) (hx := (vI_out (by omega) (by omega)))).l lk_L_call w_2_41 dL_refuses_230 rfl ⟨by decide, by decide⟩ (Nat.le_of_ble_eq_true rfl) ?_
      rintro _ w25 ⟨rfl, hA26⟩
      have C := hB.1 9 (by omega)
      have RT := hB.2.2.1 9 (by omega)
      show Ω 9 w25 [(5, .int no), (4, .int (nI ((sS σ) + (x % 50)))), (3, .int (nI ((sA σ) + (x % 50)))), (2, .int (nI ((sP σ) + (x % 50)))), (0, .ref (α 0)), (1, .int (nI x))] [.int (-9999001)] 233
      refine r_ldc (v := (-9999001)) C dL_refuses_233 w_2_40 ?_
      refine r_icmp_neF C (tgt := 744) dL_refuses_235 (by decide) (fun z => ((fun z => z rfl) : ¬ ((-9999001) ≠ (-9999001 : Int32))) (Iff.rfl.mp z)) ?_
      refine r_aload_n C (i := 0) 4 dL_refuses_238 rfl rfl ?_
      refine r_bipush C dL_refuses_239 kb_6 ?_
      refine r_iconst C dL_refuses_241 ki_0 ?_
      refine r_bipush C dL_refuses_242 kb_6 ?_
      refine r_iload_n C (i := 1) 5 dL_refuses_244 rfl rfl ?_
      refine r_bipush C dL_refuses_245 kb_9 ?_
      refine r_irem (v := nI (x % 9)) C dL_refuses_247 (v_nz (by omega) (by omega)) (v_rem (by omega) (by omega) (by omega)) ?_
      refine r_iadd (v := nI (6 + (x % 9))) C dL_refuses_248 (nI_add _ _) ?_
      refine r_iconst C dL_refuses_249 ki_0 ?_
      refine Ca.on hB.2.2.2 hB.2.1 (j := 9) (K := 1) (rest := []) (by omega) (cl_actor_nb hst hA26 (a := 0) (x := (nI (6 + (x % 9)))) (ha := (by omega)) (hx := (vI_out (by omega) (by omega)))).l lk_L_call w_2_41 dL_refuses_250 rfl ⟨by decide, by decide⟩ (Nat.le_of_ble_eq_true rfl) ?_
      rintro _ w27 ⟨rfl, hA28⟩
      have C := hB.1 10 (by omega)
      have RT := hB.2.2.1 10 (by omega)
      show Ω 10 w27 [(5, .int no), (4, .int (nI ((sS σ) + (x % 50)))), (3, .int (nI ((sA σ) + (x % 50)))), (2, .int (nI ((sP σ) + (x % 50)))), (0, .ref (α 0)), (1, .int (nI x))] [.int (-9999002)] 253
      refine r_ldc (v := (-9999002)) C dL_refuses_253 w_2_97 ?_
      refine r_icmp_neF C (tgt := 744) dL_refuses_255 (by decide) (fun z => ((fun z => z rfl) : ¬ ((-9999002) ≠ (-9999002 : Int32))) (Iff.rfl.mp z)) ?_
      refine r_aload_n C (i := 0) 4 dL_refuses_258 rfl rfl ?_
      refine r_bipush C dL_refuses_259 kb_7 ?_
      refine r_iload_n C (i := 2) 3 dL_refuses_261 rfl rfl ?_
      refine r_iconst C dL_refuses_262 ki_m1 ?_
      refine r_iconst C dL_refuses_263 ki_0 ?_
      refine Ca.on hB.2.2.2 hB.2.1 (j := 10) (K := 1) (rest := []) (by omega) (cl_ranked_na hst hA28 (x := (nI ((sP σ) + (x % 50)))) (y := (mI 0)) (hx := (vI_out (by omega) (by omega)))).l lk_L_call w_2_41 dL_refuses_264 rfl ⟨by decide, by decide⟩ (Nat.le_of_ble_eq_true rfl) ?_
      rintro _ w29 ⟨rfl, hA30⟩
      have C := hB.1 11 (by omega)
      have RT := hB.2.2.1 11 (by omega)
      show Ω 11 w29 [(5, .int no), (4, .int (nI ((sS σ) + (x % 50)))), (3, .int (nI ((sA σ) + (x % 50)))), (2, .int (nI ((sP σ) + (x % 50)))), (0, .ref (α 0)), (1, .int (nI x))] [.int (-9999001)] 267
      refine r_ldc (v := (-9999001)) C dL_refuses_267 w_2_40 ?_
      refine r_icmp_neF C (tgt := 744) dL_refuses_269 (by decide) (fun z => ((fun z => z rfl) : ¬ ((-9999001) ≠ (-9999001 : Int32))) (Iff.rfl.mp z)) ?_
      refine r_aload_n C (i := 0) 4 dL_refuses_272 rfl rfl ?_
      refine r_bipush C dL_refuses_273 kb_7 ?_
      refine r_iconst C dL_refuses_275 ki_0 ?_
      refine r_iconst C dL_refuses_276 ki_m1 ?_
      refine r_iload_n C (i := 1) 5 dL_refuses_277 rfl rfl ?_
      refine r_bipush C dL_refuses_278 kb_9 ?_
      refine r_irem (v := nI (x % 9)) C dL_refuses_280 (v_nz (by omega) (by omega)) (v_rem (by omega) (by omega) (by omega)) ?_
      refine r_isub (v := (mI 0 - nI (x % 9))) C dL_refuses_281 rfl ?_
      refine r_iconst C dL_refuses_282 ki_0 ?_
      refine Ca.on hB.2.2.2 hB.2.1 (j := 11) (K := 1) (rest := []) (by omega) (cl_ranked_nb hst hA30 (p := 0) (x := (mI 0 - nI (x % 9))) (hp := (by omega)) (hx := (lt_neg (by omega)))).l lk_L_call w_2_41 dL_refuses_283 rfl ⟨by decide, by decide⟩ (Nat.le_of_ble_eq_true rfl) ?_
      rintro _ w31 ⟨rfl, hA32⟩
      have C := hB.1 12 (by omega)
      have RT := hB.2.2.1 12 (by omega)
      show Ω 12 w31 [(5, .int no), (4, .int (nI ((sS σ) + (x % 50)))), (3, .int (nI ((sA σ) + (x % 50)))), (2, .int (nI ((sP σ) + (x % 50)))), (0, .ref (α 0)), (1, .int (nI x))] [.int (-9999002)] 286
      refine r_ldc (v := (-9999002)) C dL_refuses_286 w_2_97 ?_
      refine r_icmp_neF C (tgt := 744) dL_refuses_288 (by decide) (fun z => ((fun z => z rfl) : ¬ ((-9999002) ≠ (-9999002 : Int32))) (Iff.rfl.mp z)) ?_
      refine r_aload_n C (i := 0) 4 dL_refuses_291 rfl rfl ?_
      refine r_bipush C dL_refuses_292 kb_8 ?_
      refine r_iload C (i := 4) 1 dL_refuses_294 rfl ?_
      refine r_bipush C dL_refuses_296 kb_9 ?_
      refine r_iconst C dL_refuses_298 ki_0 ?_
      refine Ca.on hB.2.2.2 hB.2.1 (j := 12) (K := 1) (rest := []) (by omega) (cl_found_na hst hA32 (x := (nI ((sS σ) + (x % 50)))) (y := (nI 9)) (hx := (vI_out (by omega) (by omega)))).l lk_L_call w_2_41 dL_refuses_299 rfl ⟨by decide, by decide⟩ (Nat.le_of_ble_eq_true rfl) ?_
      rintro _ w33 ⟨rfl, hA34⟩
      have C := hB.1 13 (by omega)
      have RT := hB.2.2.1 13 (by omega)
      show Ω 13 w33 [(5, .int no), (4, .int (nI ((sS σ) + (x % 50)))), (3, .int (nI ((sA σ) + (x % 50)))), (2, .int (nI ((sP σ) + (x % 50)))), (0, .ref (α 0)), (1, .int (nI x))] [.int (-9999001)] 302
      refine r_ldc (v := (-9999001)) C dL_refuses_302 w_2_40 ?_
      refine r_icmp_neF C (tgt := 744) dL_refuses_304 (by decide) (fun z => ((fun z => z rfl) : ¬ ((-9999001) ≠ (-9999001 : Int32))) (Iff.rfl.mp z)) ?_
      refine r_aload_n C (i := 0) 4 dL_refuses_307 rfl rfl ?_
      refine r_bipush C dL_refuses_308 kb_9 ?_
      refine r_iconst C dL_refuses_310 ki_2 ?_
      refine r_iload_n C (i := 1) 5 dL_refuses_311 rfl rfl ?_
      refine r_bipush C dL_refuses_312 kb_9 ?_
      refine r_irem (v := nI (x % 9)) C dL_refuses_314 (v_nz (by omega) (by omega)) (v_rem (by omega) (by omega) (by omega)) ?_
      refine r_iadd (v := nI (2 + (x % 9))) C dL_refuses_315 (nI_add _ _) ?_
      refine r_iconst C dL_refuses_316 ki_0 ?_
      refine r_iconst C dL_refuses_317 ki_0 ?_
      refine Ca.on hB.2.2.2 hB.2.1 (j := 13) (K := 1) (rest := []) (by omega) (cl_setting_no hst hA34 (x := (nI (2 + (x % 9)))) (hx := (vI_out (by omega) (by omega)))).l lk_L_call w_2_41 dL_refuses_318 rfl ⟨by decide, by decide⟩ (Nat.le_of_ble_eq_true rfl) ?_
      rintro _ w35 ⟨rfl, hA36⟩
      have C := hB.1 14 (by omega)
      have RT := hB.2.2.1 14 (by omega)
      show Ω 14 w35 [(5, .int no), (4, .int (nI ((sS σ) + (x % 50)))), (3, .int (nI ((sA σ) + (x % 50)))), (2, .int (nI ((sP σ) + (x % 50)))), (0, .ref (α 0)), (1, .int (nI x))] [.int (-9999002)] 321
      refine r_ldc (v := (-9999002)) C dL_refuses_321 w_2_97 ?_
      refine r_icmp_neF C (tgt := 744) dL_refuses_323 (by decide) (fun z => ((fun z => z rfl) : ¬ ((-9999002) ≠ (-9999002 : Int32))) (Iff.rfl.mp z)) ?_
      refine r_aload_n C (i := 0) 4 dL_refuses_326 rfl rfl ?_
      have join346_37 : ∀ (hp : Int32), (¬ vI hp 10) → Ω 14 w35 [(5, .int no), (4, .int (nI ((sS σ) + (x % 50)))), (3, .int (nI ((sA σ) + (x % 50)))), (2, .int (nI ((sP σ) + (x % 50)))), (0, .ref (α 0)), (1, .int (nI x))] [.int hp, .int (nI 10), .ref (α 0)] 346 := by
        intro hp hhp
        refine r_iconst C dL_refuses_346 ki_0 ?_
        refine r_iconst C dL_refuses_347 ki_0 ?_
        refine Ca.on hB.2.2.2 hB.2.1 (j := 14) (K := 1) (rest := []) (by omega) (cl_hire_no hst hA36 (x := hp) (hx := hhp)).l lk_L_call w_2_41 dL_refuses_348 rfl ⟨by decide, by decide⟩ (Nat.le_of_ble_eq_true rfl) ?_
        rintro _ w38 ⟨rfl, hA39⟩
        have C := hB.1 15 (by omega)
        have RT := hB.2.2.1 15 (by omega)
        show Ω 15 w38 [(5, .int no), (4, .int (nI ((sS σ) + (x % 50)))), (3, .int (nI ((sA σ) + (x % 50)))), (2, .int (nI ((sP σ) + (x % 50)))), (0, .ref (α 0)), (1, .int (nI x))] [.int (-9999002)] 351
        refine r_ldc (v := (-9999002)) C dL_refuses_351 w_2_97 ?_
        refine r_icmp_neF C (tgt := 744) dL_refuses_353 (by decide) (fun z => ((fun z => z rfl) : ¬ ((-9999002) ≠ (-9999002 : Int32))) (Iff.rfl.mp z)) ?_
        refine r_aload_n C (i := 0) 4 dL_refuses_356 rfl rfl ?_
        refine r_bipush C dL_refuses_357 kb_12 ?_
        refine r_iload_n C (i := 2) 3 dL_refuses_359 rfl rfl ?_
        refine r_iconst C dL_refuses_360 ki_m1 ?_
        refine r_iconst C dL_refuses_361 ki_0 ?_
        refine Ca.on hB.2.2.2 hB.2.1 (j := 15) (K := 1) (rest := []) (by omega) (cl_cast_no hst hA39 (x := (nI ((sP σ) + (x % 50)))) (y := (mI 0)) (z := (nI 0)) (hx := (fun z => (vI_out (by omega) (by omega)) z.1))).l lk_L_call w_2_41 dL_refuses_362 rfl ⟨by decide, by decide⟩ (Nat.le_of_ble_eq_true rfl) ?_
        rintro _ w40 ⟨rfl, hA41⟩
        have C := hB.1 16 (by omega)
        have RT := hB.2.2.1 16 (by omega)
        show Ω 16 w40 [(5, .int no), (4, .int (nI ((sS σ) + (x % 50)))), (3, .int (nI ((sA σ) + (x % 50)))), (2, .int (nI ((sP σ) + (x % 50)))), (0, .ref (α 0)), (1, .int (nI x))] [.int (-9999001)] 365
        refine r_ldc (v := (-9999001)) C dL_refuses_365 w_2_40 ?_
        refine r_icmp_neF C (tgt := 744) dL_refuses_367 (by decide) (fun z => ((fun z => z rfl) : ¬ ((-9999001) ≠ (-9999001 : Int32))) (Iff.rfl.mp z)) ?_
        refine r_aload_n C (i := 0) 4 dL_refuses_370 rfl rfl ?_
        refine r_bipush C dL_refuses_371 kb_12 ?_
        refine r_iconst C dL_refuses_373 ki_0 ?_
        refine r_iload_n C (i := 3) 2 dL_refuses_374 rfl rfl ?_
        refine r_iconst C dL_refuses_375 ki_0 ?_
        refine Ca.on hB.2.2.2 hB.2.1 (j := 16) (K := 1) (rest := []) (by omega) (cl_cast_no hst hA41 (x := (nI 0)) (y := (nI ((sA σ) + (x % 50)))) (z := (nI 0)) (hx := (fun z => z.2.2.elim (fun e => by rw [c_eqNM (by omega) (by omega)] at e; omega) (vI_out (by omega) (by omega))))).l lk_L_call w_2_41 dL_refuses_376 rfl ⟨by decide, by decide⟩ (Nat.le_of_ble_eq_true rfl) ?_
        rintro _ w42 ⟨rfl, hA43⟩
        have C := hB.1 17 (by omega)
        have RT := hB.2.2.1 17 (by omega)
        show Ω 17 w42 [(5, .int no), (4, .int (nI ((sS σ) + (x % 50)))), (3, .int (nI ((sA σ) + (x % 50)))), (2, .int (nI ((sP σ) + (x % 50)))), (0, .ref (α 0)), (1, .int (nI x))] [.int (-9999001)] 379
        refine r_ldc (v := (-9999001)) C dL_refuses_379 w_2_40 ?_
        refine r_icmp_neF C (tgt := 744) dL_refuses_381 (by decide) (fun z => ((fun z => z rfl) : ¬ ((-9999001) ≠ (-9999001 : Int32))) (Iff.rfl.mp z)) ?_
        refine r_aload_n C (i := 0) 4 dL_refuses_384 rfl rfl ?_
        refine r_bipush C dL_refuses_385 kb_12 ?_
        refine r_iconst C dL_refuses_387 ki_0 ?_
        refine r_iconst C dL_refuses_388 ki_m1 ?_
        refine r_iload C (i := 5) 0 dL_refuses_389 rfl ?_
        refine Ca.on hB.2.2.2 hB.2.1 (j := 17) (K := 1) (rest := []) (by omega) (cl_cast_no hst hA43 (x := (nI 0)) (y := (mI 0)) (z := no) (hx := (fun z => hno z.2.1))).l lk_L_call w_2_41 dL_refuses_391 rfl ⟨by decide, by decide⟩ (Nat.le_of_ble_eq_true rfl) ?_
        rintro _ w44 ⟨rfl, hA45⟩
        have C := hB.1 18 (by omega)
        have RT := hB.2.2.1 18 (by omega)
        show Ω 18 w44 [(5, .int no), (4, .int (nI ((sS σ) + (x % 50)))), (3, .int (nI ((sA σ) + (x % 50)))), (2, .int (nI ((sP σ) + (x % 50)))), (0, .ref (α 0)), (1, .int (nI x))] [.int (-9999001)] 394
        refine r_ldc (v := (-9999001)) C dL_refuses_394 w_2_40 ?_
        refine r_icmp_neF C (tgt := 744) dL_refuses_396 (by decide) (fun z => ((fun z => z rfl) : ¬ ((-9999001) ≠ (-9999001 : Int32))) (Iff.rfl.mp z)) ?_
        refine r_aload_n C (i := 0) 4 dL_refuses_399 rfl rfl ?_
        refine r_bipush C dL_refuses_400 kb_13 ?_
        refine r_iconst C dL_refuses_402 ki_0 ?_
        refine r_iload_n C (i := 3) 2 dL_refuses_403 rfl rfl ?_
        refine r_iconst C dL_refuses_404 ki_0 ?_
        refine Ca.on hB.2.2.2 hB.2.1 (j := 18) (K := 1) (rest := []) (by omega) (cl_study_nb hst hA45 (p := 0) (x := (nI ((sA σ) + (x % 50)))) (hp := (by omega)) (hx := (vI_out (by omega) (by omega)))).l lk_L_call w_2_41 dL_refuses_405 rfl ⟨by decide, by decide⟩ (Nat.le_of_ble_eq_true rfl) ?_
        rintro _ w46 ⟨rfl, hA47⟩
        have C := hB.1 19 (by omega)
        have RT := hB.2.2.1 19 (by omega)
        show Ω 19 w46 [(5, .int no), (4, .int (nI ((sS σ) + (x % 50)))), (3, .int (nI ((sA σ) + (x % 50)))), (2, .int (nI ((sP σ) + (x % 50)))), (0, .ref (α 0)), (1, .int (nI x))] [.int (-9999001)] 408
        refine r_ldc (v := (-9999001)) C dL_refuses_408 w_2_40 ?_
        refine r_icmp_neF C (tgt := 744) dL_refuses_410 (by decide) (fun z => ((fun z => z rfl) : ¬ ((-9999001) ≠ (-9999001 : Int32))) (Iff.rfl.mp z)) ?_
        refine r_aload_n C (i := 0) 4 dL_refuses_413 rfl rfl ?_
        refine r_bipush C dL_refuses_414 kb_14 ?_
        refine r_iload_n C (i := 2) 3 dL_refuses_416 rfl rfl ?_
        refine r_iconst C dL_refuses_417 ki_0 ?_
        refine r_iconst C dL_refuses_418 ki_0 ?_
        refine Ca.on hB.2.2.2 hB.2.1 (j := 19) (K := 1) (rest := []) (by omega) (cl_release_na hst hA47 (x := (nI ((sP σ) + (x % 50)))) (y := (nI 0)) (hx := (vI_out (by omega) (by omega)))).l lk_L_call w_2_41 dL_refuses_419 rfl ⟨by decide, by decide⟩ (Nat.le_of_ble_eq_true rfl) ?_
        rintro _ w48 ⟨rfl, hA49⟩
        have C := hB.1 20 (by omega)
        have RT := hB.2.2.1 20 (by omega)
        show Ω 20 w48 [(5, .int no), (4, .int (nI ((sS σ) + (x % 50)))), (3, .int (nI ((sA σ) + (x % 50)))), (2, .int (nI ((sP σ) + (x % 50)))), (0, .ref (α 0)), (1, .int (nI x))] [.int (-9999001)] 422
        refine r_ldc (v := (-9999001)) C dL_refuses_422 w_2_40 ?_
        refine r_icmp_neF C (tgt := 744) dL_refuses_424 (by decide) (fun z => ((fun z => z rfl) : ¬ ((-9999001) ≠ (-9999001 : Int32))) (Iff.rfl.mp z)) ?_
        refine r_aload_n C (i := 0) 4 dL_refuses_427 rfl rfl ?_
        refine r_iconst C dL_refuses_428 ki_0 ?_
        refine r_iload C (i := 5) 0 dL_refuses_429 rfl ?_
        refine r_iconst C dL_refuses_431 ki_1 ?_
        refine Ca.on hB.2.2.2 hB.2.1 (j := 20) (K := 1) (rest := []) (by omega) (t_ill_nb hst hA49 (a := 0) (x := no) (y := (nI 1)) (ha := (by omega)) (hx := hno)).l lk_L_setIll w_1_159 dL_refuses_432 rfl ⟨by decide, by decide⟩ (Nat.le_of_ble_eq_true rfl) ?_
        rintro _ w50 ⟨rfl, hA51⟩
        have C := hB.1 21 (by omega)
        have RT := hB.2.2.1 21 (by omega)
        show Ω 21 w50 [(5, .int no), (4, .int (nI ((sS σ) + (x % 50)))), (3, .int (nI ((sA σ) + (x % 50)))), (2, .int (nI ((sP σ) + (x % 50)))), (0, .ref (α 0)), (1, .int (nI x))] [.int (-9999001)] 435
        refine r_ldc (v := (-9999001)) C dL_refuses_435 w_2_40 ?_
        refine r_icmp_neF C (tgt := 744) dL_refuses_437 (by decide) (fun z => ((fun z => z rfl) : ¬ ((-9999001) ≠ (-9999001 : Int32))) (Iff.rfl.mp z)) ?_
        refine r_aload_n C (i := 0) 4 dL_refuses_440 rfl rfl ?_
        refine r_iload_n C (i := 3) 2 dL_refuses_441 rfl rfl ?_
        refine r_iconst C dL_refuses_442 ki_0 ?_
        refine r_iconst C dL_refuses_443 ki_1 ?_
        refine Ca.on hB.2.2.2 hB.2.1 (j := 21) (K := 1) (rest := []) (by omega) (t_ill_na hst hA51 (x := (nI ((sA σ) + (x % 50)))) (y := (nI 0)) (z := (nI 1)) (hx := (vI_out (by omega) (by omega)))).l lk_L_setIll w_1_159 dL_refuses_444 rfl ⟨by decide, by decide⟩ (Nat.le_of_ble_eq_true rfl) ?_
        rintro _ w52 ⟨rfl, hA53⟩
        have C := hB.1 22 (by omega)
        have RT := hB.2.2.1 22 (by omega)
        show Ω 22 w52 [(5, .int no), (4, .int (nI ((sS σ) + (x % 50)))), (3, .int (nI ((sA σ) + (x % 50)))), (2, .int (nI ((sP σ) + (x % 50)))), (0, .ref (α 0)), (1, .int (nI x))] [.int (-9999001)] 447
        refine r_ldc (v := (-9999001)) C dL_refuses_447 w_2_40 ?_
        refine r_icmp_neF C (tgt := 744) dL_refuses_449 (by decide) (fun z => ((fun z => z rfl) : ¬ ((-9999001) ≠ (-9999001 : Int32))) (Iff.rfl.mp z)) ?_
        refine r_aload_n C (i := 0) 4 dL_refuses_452 rfl rfl ?_
        refine r_iload C (i := 5) 0 dL_refuses_453 rfl ?_
        refine r_iconst C dL_refuses_455 ki_0 ?_
        refine r_iconst C dL_refuses_456 ki_0 ?_
        refine r_bipush C dL_refuses_457 kb_24 ?_
        refine Ca.on hB.2.2.2 hB.2.1 (j := 22) (K := 1) (rest := []) (by omega) (t_slip_na hst hA53 (u := (nI 24)) (x := no) (y := (nI 0)) (z := (nI 0)) (hx := hno)).l lk_L_addSlip w_5_2 dL_refuses_459 rfl ⟨by decide, by decide⟩ (Nat.le_of_ble_eq_true rfl) ?_
        rintro _ w54 ⟨rfl, hA55⟩
        have C := hB.1 23 (by omega)
        have RT := hB.2.2.1 23 (by omega)
        show Ω 23 w54 [(5, .int no), (4, .int (nI ((sS σ) + (x % 50)))), (3, .int (nI ((sA σ) + (x % 50)))), (2, .int (nI ((sP σ) + (x % 50)))), (0, .ref (α 0)), (1, .int (nI x))] [.int (-9999001)] 462
        refine r_ldc (v := (-9999001)) C dL_refuses_462 w_2_40 ?_
        refine r_icmp_neF C (tgt := 744) dL_refuses_464 (by decide) (fun z => ((fun z => z rfl) : ¬ ((-9999001) ≠ (-9999001 : Int32))) (Iff.rfl.mp z)) ?_
        refine r_aload_n C (i := 0) 4 dL_refuses_467 rfl rfl ?_
        refine r_iload_n C (i := 1) 5 dL_refuses_468 rfl rfl ?_
        refine r_bipush C dL_refuses_469 kb_20 ?_
        refine r_irem (v := nI (x % 20)) C dL_refuses_471 (v_nz (by omega) (by omega)) (v_rem (by omega) (by omega) (by omega)) ?_
        refine r_iconst C dL_refuses_472 ki_0 ?_
        refine r_iconst C dL_refuses_473 ki_0 ?_
        refine r_bipush C dL_refuses_474 kb_24 ?_
        refine r_iload_n C (i := 1) 5 dL_refuses_476 rfl rfl ?_
        refine r_bipush C dL_refuses_477 kb_9 ?_
        refine r_irem (v := nI (x % 9)) C dL_refuses_479 (v_nz (by omega) (by omega)) (v_rem (by omega) (by omega) (by omega)) ?_
        refine r_iadd (v := nI (24 + (x % 9))) C dL_refuses_480 (nI_add _ _) ?_
        refine Ca.on hB.2.2.2 hB.2.1 (j := 23) (K := 1) (rest := []) (by omega) (t_slip_nd hst hA55 (a := 0) (n := x % 20) (p := 0) (x := (nI (24 + (x % 9)))) (hn := (by omega)) (hp := (by omega)) (ha := (by omega)) (hx := (vI_out (by omega) (by omega)))).l lk_L_addSlip w_5_2 dL_refuses_481 rfl ⟨by decide, by decide⟩ (Nat.le_of_ble_eq_true rfl) ?_
        rintro _ w56 ⟨rfl, hA57⟩
        have C := hB.1 24 (by omega)
        have RT := hB.2.2.1 24 (by omega)
        show Ω 24 w56 [(5, .int no), (4, .int (nI ((sS σ) + (x % 50)))), (3, .int (nI ((sA σ) + (x % 50)))), (2, .int (nI ((sP σ) + (x % 50)))), (0, .ref (α 0)), (1, .int (nI x))] [.int (-9999002)] 484
        refine r_ldc (v := (-9999002)) C dL_refuses_484 w_2_97 ?_
        refine r_icmp_neF C (tgt := 744) dL_refuses_486 (by decide) (fun z => ((fun z => z rfl) : ¬ ((-9999002) ≠ (-9999002 : Int32))) (Iff.rfl.mp z)) ?_
        refine r_aload_n C (i := 0) 4 dL_refuses_489 rfl rfl ?_
        refine r_bipush C dL_refuses_490 kb_15 ?_
        refine r_iload C (i := 4) 1 dL_refuses_492 rfl ?_
        refine r_iconst C dL_refuses_494 ki_0 ?_
        refine r_iconst C dL_refuses_495 ki_0 ?_
        refine Ca.on hB.2.2.2 hB.2.1 (j := 24) (K := 1) (rest := []) (by omega) (cl_lose_no hst hA57 (x := (nI ((sS σ) + (x % 50)))) (hx := (vI_out (by omega) (by omega)))).l lk_L_call w_2_41 dL_refuses_496 rfl ⟨by decide, by decide⟩ (Nat.le_of_ble_eq_true rfl) ?_
        rintro _ w58 ⟨rfl, hA59⟩
        have C := hB.1 25 (by omega)
        have RT := hB.2.2.1 25 (by omega)
        show Ω 25 w58 [(5, .int no), (4, .int (nI ((sS σ) + (x % 50)))), (3, .int (nI ((sA σ) + (x % 50)))), (2, .int (nI ((sP σ) + (x % 50)))), (0, .ref (α 0)), (1, .int (nI x))] [.int (-9999001)] 499
        refine r_ldc (v := (-9999001)) C dL_refuses_499 w_2_40 ?_
        refine r_icmp_neF C (tgt := 744) dL_refuses_501 (by decide) (fun z => ((fun z => z rfl) : ¬ ((-9999001) ≠ (-9999001 : Int32))) (Iff.rfl.mp z)) ?_
        refine r_aload_n C (i := 0) 4 dL_refuses_504 rfl rfl ?_
        refine r_bipush C dL_refuses_505 kb_16 ?_
        refine r_iload_n C (i := 1) 5 dL_refuses_507 rfl rfl ?_
        refine r_iconst C dL_refuses_508 ki_2 ?_
        refine r_irem (v := nI (x % 2)) C dL_refuses_509 (v_nz (by omega) (by omega)) (v_rem (by omega) (by omega) (by omega)) ?_
        refine r_bipush C dL_refuses_510 kb_100 ?_
        refine r_iload_n C (i := 1) 5 dL_refuses_512 rfl rfl ?_
        refine r_bipush C dL_refuses_513 kb_9 ?_
        refine r_irem (v := nI (x % 9)) C dL_refuses_515 (v_nz (by omega) (by omega)) (v_rem (by omega) (by omega) (by omega)) ?_
        refine r_iadd (v := nI (100 + (x % 9))) C dL_refuses_516 (nI_add _ _) ?_
        refine r_iconst C dL_refuses_517 ki_0 ?_
        refine Ca.on hB.2.2.2 hB.2.1 (j := 25) (K := 1) (rest := []) (by omega) (cl_lay_nx hst hA59 (k := x % 2) (x := (nI (100 + (x % 9)))) (hk := (by omega)) (hx := (vI_out (by omega) (by omega)))).l lk_L_call w_2_41 dL_refuses_518 rfl ⟨by decide, by decide⟩ (Nat.le_of_ble_eq_true rfl) ?_
        rintro _ w60 ⟨rfl, hA61⟩
        have C := hB.1 26 (by omega)
        have RT := hB.2.2.1 26 (by omega)
        show Ω 26 w60 [(5, .int no), (4, .int (nI ((sS σ) + (x % 50)))), (3, .int (nI ((sA σ) + (x % 50)))), (2, .int (nI ((sP σ) + (x % 50)))), (0, .ref (α 0)), (1, .int (nI x))] [.int (-9999002)] 521
        refine r_ldc (v := (-9999002)) C dL_refuses_521 w_2_97 ?_
        refine r_icmp_neF C (tgt := 744) dL_refuses_523 (by decide) (fun z => ((fun z => z rfl) : ¬ ((-9999002) ≠ (-9999002 : Int32))) (Iff.rfl.mp z)) ?_
        refine r_aload_n C (i := 0) 4 dL_refuses_526 rfl rfl ?_
        refine r_bipush C dL_refuses_527 kb_16 ?_
        refine r_iconst C dL_refuses_529 ki_2 ?_
        refine r_iload_n C (i := 1) 5 dL_refuses_530 rfl rfl ?_
        refine r_bipush C dL_refuses_531 kb_9 ?_
        refine r_irem (v := nI (x % 9)) C dL_refuses_533 (v_nz (by omega) (by omega)) (v_rem (by omega) (by omega) (by omega)) ?_
        refine r_iadd (v := nI (2 + (x % 9))) C dL_refuses_534 (nI_add _ _) ?_
        refine r_iconst C dL_refuses_535 ki_1 ?_
        refine r_iconst C dL_refuses_536 ki_0 ?_
        refine Ca.on hB.2.2.2 hB.2.1 (j := 26) (K := 1) (rest := []) (by omega) (cl_lay_na hst hA61 (x := (nI (2 + (x % 9)))) (y := (nI 1)) (hx := (vI_out (by omega) (by omega)))).l lk_L_call w_2_41 dL_refuses_537 rfl ⟨by decide, by decide⟩ (Nat.le_of_ble_eq_true rfl) ?_
        rintro _ w62 ⟨rfl, hA63⟩
        have C := hB.1 27 (by omega)
        have RT := hB.2.2.1 27 (by omega)
        show Ω 27 w62 [(5, .int no), (4, .int (nI ((sS σ) + (x % 50)))), (3, .int (nI ((sA σ) + (x % 50)))), (2, .int (nI ((sP σ) + (x % 50)))), (0, .ref (α 0)), (1, .int (nI x))] [.int (-9999002)] 540
        refine r_ldc (v := (-9999002)) C dL_refuses_540 w_2_97 ?_
        refine r_icmp_neF C (tgt := 744) dL_refuses_542 (by decide) (fun z => ((fun z => z rfl) : ¬ ((-9999002) ≠ (-9999002 : Int32))) (Iff.rfl.mp z)) ?_
        refine r_aload_n C (i := 0) 4 dL_refuses_545 rfl rfl ?_
        refine r_bipush C dL_refuses_546 kb_18 ?_
        refine r_iconst C dL_refuses_548 ki_0 ?_
        refine r_iload_n C (i := 3) 2 dL_refuses_549 rfl rfl ?_
        refine r_iconst C dL_refuses_550 ki_0 ?_
        refine Ca.on hB.2.2.2 hB.2.1 (j := 27) (K := 1) (rest := []) (by omega) (cl_find_nb hst hA63 (p := 0) (x := (nI ((sA σ) + (x % 50)))) (y := (nI 0)) (hp := (by omega)) (hx := (vI_out (by omega) (by omega)))).l lk_L_call w_2_41 dL_refuses_551 rfl ⟨by decide, by decide⟩ (Nat.le_of_ble_eq_true rfl) ?_
        rintro _ w64 ⟨rfl, hA65⟩
        have C := hB.1 28 (by omega)
        have RT := hB.2.2.1 28 (by omega)
        show Ω 28 w64 [(5, .int no), (4, .int (nI ((sS σ) + (x % 50)))), (3, .int (nI ((sA σ) + (x % 50)))), (2, .int (nI ((sP σ) + (x % 50)))), (0, .ref (α 0)), (1, .int (nI x))] [.int (-9999001)] 554
        refine r_ldc (v := (-9999001)) C dL_refuses_554 w_2_40 ?_
        refine r_icmp_neF C (tgt := 744) dL_refuses_556 (by decide) (fun z => ((fun z => z rfl) : ¬ ((-9999001) ≠ (-9999001 : Int32))) (Iff.rfl.mp z)) ?_
        refine r_aload_n C (i := 0) 4 dL_refuses_559 rfl rfl ?_
        refine r_bipush C dL_refuses_560 kb_18 ?_
        refine r_iconst C dL_refuses_562 ki_0 ?_
        refine r_iconst C dL_refuses_563 ki_0 ?_
        refine r_iconst C dL_refuses_564 ki_m1 ?_
        refine r_iload_n C (i := 1) 5 dL_refuses_565 rfl rfl ?_
        refine r_bipush C dL_refuses_566 kb_9 ?_
        refine r_irem (v := nI (x % 9)) C dL_refuses_568 (v_nz (by omega) (by omega)) (v_rem (by omega) (by omega) (by omega)) ?_
        refine r_isub (v := (mI 0 - nI (x % 9))) C dL_refuses_569 rfl ?_
        refine Ca.on hB.2.2.2 hB.2.1 (j := 28) (K := 1) (rest := []) (by omega) (cl_find_nc hst hA65 (a := 0) (p := 0) (x := (mI 0 - nI (x % 9))) (hp := (by omega)) (ha := (by omega)) (hx := (lt_neg (by omega)))).l lk_L_call w_2_41 dL_refuses_570 rfl ⟨by decide, by decide⟩ (Nat.le_of_ble_eq_true rfl) ?_
        rintro _ w66 ⟨rfl, hA67⟩
        have C := hB.1 29 (by omega)
        have RT := hB.2.2.1 29 (by omega)
        show Ω 29 w66 [(5, .int no), (4, .int (nI ((sS σ) + (x % 50)))), (3, .int (nI ((sA σ) + (x % 50)))), (2, .int (nI ((sP σ) + (x % 50)))), (0, .ref (α 0)), (1, .int (nI x))] [.int (-9999002)] 573
        refine r_ldc (v := (-9999002)) C dL_refuses_573 w_2_97 ?_
        refine r_icmp_neF C (tgt := 744) dL_refuses_575 (by decide) (fun z => ((fun z => z rfl) : ¬ ((-9999002) ≠ (-9999002 : Int32))) (Iff.rfl.mp z)) ?_
        refine r_aload_n C (i := 0) 4 dL_refuses_578 rfl rfl ?_
        refine r_bipush C dL_refuses_579 kb_19 ?_
        refine r_iconst C dL_refuses_581 ki_0 ?_
        refine r_iload_n C (i := 3) 2 dL_refuses_582 rfl rfl ?_
        refine r_iconst C dL_refuses_583 ki_0 ?_
        refine Ca.on hB.2.2.2 hB.2.1 (j := 29) (K := 1) (rest := []) (by omega) (cl_together_nb hst hA67 (a := 0) (x := (nI ((sA σ) + (x % 50)))) (ha := (by omega)) (hx := (vI_out (by omega) (by omega)))).l lk_L_call w_2_41 dL_refuses_584 rfl ⟨by decide, by decide⟩ (Nat.le_of_ble_eq_true rfl) ?_
        rintro _ w68 ⟨rfl, hA69⟩
        have C := hB.1 30 (by omega)
        have RT := hB.2.2.1 30 (by omega)
        show Ω 30 w68 [(5, .int no), (4, .int (nI ((sS σ) + (x % 50)))), (3, .int (nI ((sA σ) + (x % 50)))), (2, .int (nI ((sP σ) + (x % 50)))), (0, .ref (α 0)), (1, .int (nI x))] [.int (-9999001)] 587
        refine r_ldc (v := (-9999001)) C dL_refuses_587 w_2_40 ?_
        refine r_icmp_neF C (tgt := 744) dL_refuses_589 (by decide) (fun z => ((fun z => z rfl) : ¬ ((-9999001) ≠ (-9999001 : Int32))) (Iff.rfl.mp z)) ?_
        refine r_aload_n C (i := 0) 4 dL_refuses_592 rfl rfl ?_
        refine r_bipush C dL_refuses_593 kb_20 ?_
        refine r_iload_n C (i := 2) 3 dL_refuses_595 rfl rfl ?_
        refine r_iconst C dL_refuses_596 ki_0 ?_
        refine r_iconst C dL_refuses_597 ki_0 ?_
        refine Ca.on hB.2.2.2 hB.2.1 (j := 30) (K := 1) (rest := []) (by omega) (cl_longest_na hst hA69 (x := (nI ((sP σ) + (x % 50)))) (y := (nI 0)) (hx := (vI_out (by omega) (by omega)))).l lk_L_call w_2_41 dL_refuses_598 rfl ⟨by decide, by decide⟩ (Nat.le_of_ble_eq_true rfl) ?_
        rintro _ w70 ⟨rfl, hA71⟩
        have C := hB.1 31 (by omega)
        have RT := hB.2.2.1 31 (by omega)
        show Ω 31 w70 [(5, .int no), (4, .int (nI ((sS σ) + (x % 50)))), (3, .int (nI ((sA σ) + (x % 50)))), (2, .int (nI ((sP σ) + (x % 50)))), (0, .ref (α 0)), (1, .int (nI x))] [.int (-9999001)] 601
        refine r_ldc (v := (-9999001)) C dL_refuses_601 w_2_40 ?_
        refine r_icmp_neF C (tgt := 744) dL_refuses_603 (by decide) (fun z => ((fun z => z rfl) : ¬ ((-9999001) ≠ (-9999001 : Int32))) (Iff.rfl.mp z)) ?_
        refine r_aload_n C (i := 0) 4 dL_refuses_606 rfl rfl ?_
        refine r_bipush C dL_refuses_607 kb_21 ?_
        refine r_iconst C dL_refuses_609 ki_0 ?_
        refine r_iload C (i := 5) 0 dL_refuses_610 rfl ?_
        refine r_iconst C dL_refuses_612 ki_0 ?_
        refine Ca.on hB.2.2.2 hB.2.1 (j := 31) (K := 1) (rest := []) (by omega) (cl_would_nb hst hA71 (a := 0) (x := no) (y := (nI 0)) (ha := (by omega)) (hx := hno)).l lk_L_call w_2_41 dL_refuses_613 rfl ⟨by decide, by decide⟩ (Nat.le_of_ble_eq_true rfl) ?_
        rintro _ w72 ⟨rfl, hA73⟩
        have C := hB.1 32 (by omega)
        have RT := hB.2.2.1 32 (by omega)
        show Ω 32 w72 [(5, .int no), (4, .int (nI ((sS σ) + (x % 50)))), (3, .int (nI ((sA σ) + (x % 50)))), (2, .int (nI ((sP σ) + (x % 50)))), (0, .ref (α 0)), (1, .int (nI x))] [.int (-9999001)] 616
        refine r_ldc (v := (-9999001)) C dL_refuses_616 w_2_40 ?_
        refine r_icmp_neF C (tgt := 744) dL_refuses_618 (by decide) (fun z => ((fun z => z rfl) : ¬ ((-9999001) ≠ (-9999001 : Int32))) (Iff.rfl.mp z)) ?_
        refine r_aload_n C (i := 0) 4 dL_refuses_621 rfl rfl ?_
        refine r_bipush C dL_refuses_622 kb_21 ?_
        refine r_iconst C dL_refuses_624 ki_0 ?_
        refine r_iload_n C (i := 1) 5 dL_refuses_625 rfl rfl ?_
        refine r_bipush C dL_refuses_626 kb_20 ?_
        refine r_irem (v := nI (x % 20)) C dL_refuses_628 (v_nz (by omega) (by omega)) (v_rem (by omega) (by omega) (by omega)) ?_
        refine r_iconst C dL_refuses_629 ki_2 ?_
        refine r_iload_n C (i := 1) 5 dL_refuses_630 rfl rfl ?_
        refine r_bipush C dL_refuses_631 kb_9 ?_
        refine r_irem (v := nI (x % 9)) C dL_refuses_633 (v_nz (by omega) (by omega)) (v_rem (by omega) (by omega) (by omega)) ?_
        refine r_iadd (v := nI (2 + (x % 9))) C dL_refuses_634 (nI_add _ _) ?_
        refine Ca.on hB.2.2.2 hB.2.1 (j := 32) (K := 1) (rest := []) (by omega) (cl_would_nc hst hA73 (a := 0) (n := x % 20) (x := (nI (2 + (x % 9)))) (ha := (by omega)) (hn := (by omega)) (hx := (vI_out (by omega) (by omega)))).l lk_L_call w_2_41 dL_refuses_635 rfl ⟨by decide, by decide⟩ (Nat.le_of_ble_eq_true rfl) ?_
        rintro _ w74 ⟨rfl, hA75⟩
        have C := hB.1 33 (by omega)
        have RT := hB.2.2.1 33 (by omega)
        show Ω 33 w74 [(5, .int no), (4, .int (nI ((sS σ) + (x % 50)))), (3, .int (nI ((sA σ) + (x % 50)))), (2, .int (nI ((sP σ) + (x % 50)))), (0, .ref (α 0)), (1, .int (nI x))] [.int (-9999002)] 638
        refine r_ldc (v := (-9999002)) C dL_refuses_638 w_2_97 ?_
        refine r_icmp_neF C (tgt := 744) dL_refuses_640 (by decide) (fun z => ((fun z => z rfl) : ¬ ((-9999002) ≠ (-9999002 : Int32))) (Iff.rfl.mp z)) ?_
        refine r_aload_n C (i := 0) 4 dL_refuses_643 rfl rfl ?_
        refine r_bipush C dL_refuses_644 kb_22 ?_
        refine r_iload_n C (i := 2) 3 dL_refuses_646 rfl rfl ?_
        refine r_iconst C dL_refuses_647 ki_0 ?_
        refine r_iconst C dL_refuses_648 ki_0 ?_
        refine Ca.on hB.2.2.2 hB.2.1 (j := 33) (K := 1) (rest := []) (by omega) (cl_best_no hst hA75 (x := (nI ((sP σ) + (x % 50)))) (hx := (vI_out (by omega) (by omega)))).l lk_L_call w_2_41 dL_refuses_649 rfl ⟨by decide, by decide⟩ (Nat.le_of_ble_eq_true rfl) ?_
        rintro _ w76 ⟨rfl, hA77⟩
        have C := hB.1 34 (by omega)
        have RT := hB.2.2.1 34 (by omega)
        show Ω 34 w76 [(5, .int no), (4, .int (nI ((sS σ) + (x % 50)))), (3, .int (nI ((sA σ) + (x % 50)))), (2, .int (nI ((sP σ) + (x % 50)))), (0, .ref (α 0)), (1, .int (nI x))] [.int (-9999001)] 652
        refine r_ldc (v := (-9999001)) C dL_refuses_652 w_2_40 ?_
        refine r_icmp_neF C (tgt := 744) dL_refuses_654 (by decide) (fun z => ((fun z => z rfl) : ¬ ((-9999001) ≠ (-9999001 : Int32))) (Iff.rfl.mp z)) ?_
        refine r_aload_n C (i := 0) 4 dL_refuses_657 rfl rfl ?_
        refine r_bipush C dL_refuses_658 kb_23 ?_
        refine r_iconst C dL_refuses_660 ki_2 ?_
        refine r_iload_n C (i := 1) 5 dL_refuses_661 rfl rfl ?_
        refine r_bipush C dL_refuses_662 kb_50 ?_
        refine r_irem (v := nI (x % 50)) C dL_refuses_664 (v_nz (by omega) (by omega)) (v_rem (by omega) (by omega) (by omega)) ?_
        refine r_iadd (v := nI (2 + (x % 50))) C dL_refuses_665 (nI_add _ _) ?_
        refine r_iconst C dL_refuses_666 ki_0 ?_
        refine r_iconst C dL_refuses_667 ki_0 ?_
        refine Ca.on hB.2.2.2 hB.2.1 (j := 34) (K := 1) (rest := []) (by omega) (cl_keep_no hst hA77 (x := (nI (2 + (x % 50)))) (hx := (vI_out (by omega) (by omega)))).l lk_L_call w_2_41 dL_refuses_668 rfl ⟨by decide, by decide⟩ (Nat.le_of_ble_eq_true rfl) ?_
        rintro _ w78 ⟨rfl, hA79⟩
        have C := hB.1 35 (by omega)
        have RT := hB.2.2.1 35 (by omega)
        show Ω 35 w78 [(5, .int no), (4, .int (nI ((sS σ) + (x % 50)))), (3, .int (nI ((sA σ) + (x % 50)))), (2, .int (nI ((sP σ) + (x % 50)))), (0, .ref (α 0)), (1, .int (nI x))] [.int (-9999001)] 671
        refine r_ldc (v := (-9999001)) C dL_refuses_671 w_2_40 ?_
        refine r_icmp_neF C (tgt := 744) dL_refuses_673 (by decide) (fun z => ((fun z => z rfl) : ¬ ((-9999001) ≠ (-9999001 : Int32))) (Iff.rfl.mp z)) ?_
        refine r_aload_n C (i := 0) 4 dL_refuses_676 rfl rfl ?_
        refine r_bipush C dL_refuses_677 kb_24 ?_
        refine r_iconst C dL_refuses_679 ki_m1 ?_
        refine r_iload_n C (i := 1) 5 dL_refuses_680 rfl rfl ?_
        refine r_bipush C dL_refuses_681 kb_9 ?_
        refine r_irem (v := nI (x % 9)) C dL_refuses_683 (v_nz (by omega) (by omega)) (v_rem (by omega) (by omega) (by omega)) ?_
        refine r_isub (v := (mI 0 - nI (x % 9))) C dL_refuses_684 rfl ?_
        refine r_iconst C dL_refuses_685 ki_0 ?_
        refine r_iconst C dL_refuses_686 ki_0 ?_
        refine Ca.on hB.2.2.2 hB.2.1 (j := 35) (K := 1) (rest := []) (by omega) (cl_back_na hst hA79 (x := (mI 0 - nI (x % 9))) (hx := (vI_mn (by omega)))).l lk_L_call w_2_41 dL_refuses_687 rfl ⟨by decide, by decide⟩ (Nat.le_of_ble_eq_true rfl) ?_
        rintro _ w80 ⟨rfl, hA81⟩
        have C := hB.1 36 (by omega)
        have RT := hB.2.2.1 36 (by omega)
        show Ω 36 w80 [(5, .int no), (4, .int (nI ((sS σ) + (x % 50)))), (3, .int (nI ((sA σ) + (x % 50)))), (2, .int (nI ((sP σ) + (x % 50)))), (0, .ref (α 0)), (1, .int (nI x))] [.int (-9999001)] 690
        refine r_ldc (v := (-9999001)) C dL_refuses_690 w_2_40 ?_
        refine r_icmp_neF C (tgt := 744) dL_refuses_692 (by decide) (fun z => ((fun z => z rfl) : ¬ ((-9999001) ≠ (-9999001 : Int32))) (Iff.rfl.mp z)) ?_
        refine r_aload_n C (i := 0) 4 dL_refuses_695 rfl rfl ?_
        refine r_iconst C dL_refuses_696 ki_0 ?_
        refine r_lconst (v := lN 0) C dL_refuses_697 (by decide +kernel) ?_
        refine Ca.on hB.2.2.2 hB.2.1 (j := 36) (K := 1) (rest := []) (by omega) (t_script_na hst hA81 (x := (nI 0)) (z := (lN 0)) (hx := (fun z => absurd z.1 (by decide)))).l lk_L_doScript w_5_12 dL_refuses_698 rfl ⟨by decide, by decide⟩ (Nat.le_of_ble_eq_true rfl) ?_
        rintro _ w82 ⟨rfl, hA83⟩
        have C := hB.1 37 (by omega)
        have RT := hB.2.2.1 37 (by omega)
        show Ω 37 w82 [(5, .int no), (4, .int (nI ((sS σ) + (x % 50)))), (3, .int (nI ((sA σ) + (x % 50)))), (2, .int (nI ((sP σ) + (x % 50)))), (0, .ref (α 0)), (1, .int (nI x))] [.int (-9999002)] 701
        refine r_ldc (v := (-9999002)) C dL_refuses_701 w_2_97 ?_
        refine r_icmp_neF C (tgt := 744) dL_refuses_703 (by decide) (fun z => ((fun z => z rfl) : ¬ ((-9999002) ≠ (-9999002 : Int32))) (Iff.rfl.mp z)) ?_
        refine r_aload_n C (i := 0) 4 dL_refuses_706 rfl rfl ?_
        refine r_iconst C dL_refuses_707 ki_1 ?_
        refine r_ldc2 (v := lN 100000) C dL_refuses_708 w_5_37 ?_
        refine r_iload_n C (i := 1) 5 dL_refuses_711 rfl rfl ?_
        refine r_i2l (v := lN x) C dL_refuses_712 (v_i2l (by omega)) ?_
        refine r_ladd (v := lN (100000 + x)) C dL_refuses_713 (lN_add _ _) ?_
        refine Ca.on hB.2.2.2 hB.2.1 (j := 37) (K := 1) (rest := []) (by omega) (t_script_nc hst hA83 (S := 100000 + x) (n := 1) (hn := (by omega)) (hS := (by omega)) (hx := (by show 100000 ^ 1 ≤ 100000 + x; omega))).l lk_L_doScript w_5_12 dL_refuses_714 rfl ⟨by decide, by decide⟩ (Nat.le_of_ble_eq_true rfl) ?_
        rintro _ w84 ⟨rfl, hA85⟩
        have C := hB.1 38 (by omega)
        have RT := hB.2.2.1 38 (by omega)
        show Ω 38 w84 [(5, .int no), (4, .int (nI ((sS σ) + (x % 50)))), (3, .int (nI ((sA σ) + (x % 50)))), (2, .int (nI ((sP σ) + (x % 50)))), (0, .ref (α 0)), (1, .int (nI x))] [.int (-9999002)] 717
        refine r_ldc (v := (-9999002)) C dL_refuses_717 w_2_97 ?_
        refine r_icmp_neF C (tgt := 744) dL_refuses_719 (by decide) (fun z => ((fun z => z rfl) : ¬ ((-9999002) ≠ (-9999002 : Int32))) (Iff.rfl.mp z)) ?_
        refine r_aload_n C (i := 0) 4 dL_refuses_722 rfl rfl ?_
        refine r_iload_n C (i := 1) 5 dL_refuses_723 rfl rfl ?_
        refine r_i2l (v := lN x) C dL_refuses_724 (v_i2l (by omega)) ?_
        refine r_bipush C dL_refuses_725 kb_61 ?_
        refine r_iload_n C (i := 1) 5 dL_refuses_727 rfl rfl ?_
        refine r_bipush C dL_refuses_728 kb_9 ?_
        refine r_irem (v := nI (x % 9)) C dL_refuses_730 (v_nz (by omega) (by omega)) (v_rem (by omega) (by omega) (by omega)) ?_
        refine r_iadd (v := nI (61 + (x % 9))) C dL_refuses_731 (nI_add _ _) ?_
        refine Ca.on hB.2.2.2 hB.2.1 (j := 38) (K := 1) (rest := []) (by omega) (t_simulate_no hst hA85 (x := (nI (61 + (x % 9)))) (z := (lN x)) (hx := (fun z => by have z2 := z.2; rw [nI_toInt (by omega)] at z2; omega))).l lk_L_doSimulate w_5_38 dL_refuses_732 rfl ⟨by decide, by decide⟩ (Nat.le_of_ble_eq_true rfl) ?_
        rintro _ w86 ⟨rfl, hA87⟩
        have C := hB.1 39 (by omega)
        have RT := hB.2.2.1 39 (by omega)
        show Ω 39 w86 [(5, .int no), (4, .int (nI ((sS σ) + (x % 50)))), (3, .int (nI ((sA σ) + (x % 50)))), (2, .int (nI ((sP σ) + (x % 50)))), (0, .ref (α 0)), (1, .int (nI x))] [.int (-9999002)] 735
        refine r_ldc (v := (-9999002)) C dL_refuses_735 w_2_97 ?_
        refine r_icmp_neF C (tgt := 744) dL_refuses_737 (by decide) (fun z => ((fun z => z rfl) : ¬ ((-9999002) ≠ (-9999002 : Int32))) (Iff.rfl.mp z)) ?_
        refine r_iconst C dL_refuses_740 ki_1 ?_
        refine r_goto C 745 dL_refuses_741 (by decide) ?_
        exact RT.1 _ _ _ _ _ dL_refuses_745 rfl nar_1 (⟨rfl, hA87⟩) (hA87.fst.trans hA.fst.symm)
      refine r_bipush C dL_refuses_327 kb_10 ?_
      refine r_iload_n C (i := 1) 5 dL_refuses_329 rfl rfl ?_
      refine r_iconst C dL_refuses_330 ki_2 ?_
      refine r_irem (v := nI (x % 2)) C dL_refuses_331 (v_nz (by omega) (by omega)) (v_rem (by omega) (by omega) (by omega)) ?_
      refine r_if_ne C (y := 0) (c9 := x % 2 ≠ 0) 339 dL_refuses_332 (by decide) (z_neN (by omega)) (fun h332_88 => ?_) (fun h332_88 => ?_)
      · refine r_bipush C dL_refuses_339 kb_10 ?_
        refine r_iload_n C (i := 1) 5 dL_refuses_341 rfl rfl ?_
        refine r_bipush C dL_refuses_342 kb_9 ?_
        refine r_irem (v := nI (x % 9)) C dL_refuses_344 (v_nz (by omega) (by omega)) (v_rem (by omega) (by omega) (by omega)) ?_
        refine r_iadd (v := nI (10 + (x % 9))) C dL_refuses_345 (nI_add _ _) ?_
        exact join346_37 (nI (10 + (x % 9))) (vI_out (by omega) (by omega))
      · refine r_iconst C dL_refuses_335 ki_m1 ?_
        refine r_goto C 346 dL_refuses_336 (by decide) ?_
        exact join346_37 (mI 0) (fun z => by have z1 := z.1; rw [mI_toInt (by decide)] at z1; omega)
    refine r_aload_n C (i := 0) 4 dL_refuses_67 rfl rfl ?_
    refine r_iconst C dL_refuses_68 ki_0 ?_
    refine r_iload_n C (i := 1) 5 dL_refuses_69 rfl rfl ?_
    refine r_iconst C dL_refuses_70 ki_2 ?_
    refine r_irem (v := nI (x % 2)) C dL_refuses_71 (v_nz (by omega) (by omega)) (v_rem (by omega) (by omega) (by omega)) ?_
    refine r_if_ne C (y := 0) (c9 := x % 2 ≠ 0) 84 dL_refuses_72 (by decide) (z_neN (by omega)) (fun h72_89 => ?_) (fun h72_89 => ?_)
    · refine r_sipush C dL_refuses_84 ks_256 ?_
      refine r_iload_n C (i := 1) 5 dL_refuses_87 rfl rfl ?_
      refine r_bipush C dL_refuses_88 kb_9 ?_
      refine r_irem (v := nI (x % 9)) C dL_refuses_90 (v_nz (by omega) (by omega)) (v_rem (by omega) (by omega) (by omega)) ?_
      refine r_iadd (v := nI (256 + (x % 9))) C dL_refuses_91 (nI_add _ _) ?_
      exact join92_8 (nI (256 + (x % 9))) (vI_out (by omega) (by omega))
    · refine r_iconst C dL_refuses_75 ki_m1 ?_
      refine r_iload_n C (i := 1) 5 dL_refuses_76 rfl rfl ?_
      refine r_bipush C dL_refuses_77 kb_9 ?_
      refine r_irem (v := nI (x % 9)) C dL_refuses_79 (v_nz (by omega) (by omega)) (v_rem (by omega) (by omega) (by omega)) ?_
      refine r_isub (v := (mI 0 - nI (x % 9))) C dL_refuses_80 rfl ?_
      refine r_goto C 92 dL_refuses_81 (by decide) ?_
      exact join92_8 (mI 0 - nI (x % 9)) (vI_mn (by omega))
  refine r_iload_n C (i := 1) 4 dL_refuses_43 rfl rfl ?_
  refine r_iconst C dL_refuses_44 ki_2 ?_
  refine r_irem (v := nI (x % 2)) C dL_refuses_45 (v_nz (by omega) (by omega)) (v_rem (by omega) (by omega) (by omega)) ?_
  refine r_if_ne C (y := 0) (c9 := x % 2 ≠ 0) 58 dL_refuses_46 (by decide) (z_neN (by omega)) (fun h46_90 => ?_) (fun h46_90 => ?_)
  · refine r_bipush C dL_refuses_58 kb_20 ?_
    refine r_iload_n C (i := 1) 4 dL_refuses_60 rfl rfl ?_
    refine r_bipush C dL_refuses_61 kb_99 ?_
    refine r_irem (v := nI (x % 99)) C dL_refuses_63 (v_nz (by omega) (by omega)) (v_rem (by omega) (by omega) (by omega)) ?_
    refine r_iadd (v := nI (20 + (x % 99))) C dL_refuses_64 (nI_add _ _) ?_
    exact join65_7 (nI (20 + (x % 99))) (vI_out (by omega) (by omega))
  · refine r_iconst C dL_refuses_49 ki_m1 ?_
    refine r_iload_n C (i := 1) 4 dL_refuses_50 rfl rfl ?_
    refine r_bipush C dL_refuses_51 kb_99 ?_
    refine r_irem (v := nI (x % 99)) C dL_refuses_53 (v_nz (by omega) (by omega)) (v_rem (by omega) (by omega) (by omega)) ?_
    refine r_isub (v := (mI 0 - nI (x % 99))) C dL_refuses_54 rfl ?_
    refine r_goto C 65 dL_refuses_55 (by decide) ?_
    exact join65_7 (mI 0 - nI (x % 99)) (vI_mn (by omega))
