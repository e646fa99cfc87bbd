/-! the text: what a command is, how many digits stand behind it, up to where they are right, what it does -/
def TxR (sg : Nat → Nat) (sz : Nat) (tx : Nat → Int32) : Prop := sz ≤ 120 ∧ ∀ k, k < sz → tx k = nI (sg k) ∧ sg k < 256
abbrev isC (c : Nat) : Prop := c = 97 ∨ c = 112 ∨ c = 99 ∨ c = 117 ∨ c = 105 ∨ c = 115
def nD (c : Nat) : Nat := if c = 97 then 1 else if c = 99 then 4 else if c = 117 then 2 else if c = 105 then 3 else if c = 115 then 6 else 0
/-- the greatest sign that may stand at a place behind a command; p is the sign before it -/
def hiD (c k p : Nat) : Nat :=
  if c = 97 then 57
  else if c = 99 then (if k = 0 then 53 else if k = 2 then 49 else 57)
  else if c = 117 then (if k = 0 then 53 else 57)
  else if c = 105 then (if k = 1 then 49 else 57)
  else (if k = 0 then 49 else if k = 2 then 53 else if k = 4 then 50 else if k = 5 then (if p = 50 then 51 else 57) else 57)
abbrev gd (sg : Nat → Nat) (sz i k : Nat) : Prop := i + 1 + k < sz ∧ 48 ≤ sg (i + 1 + k) ∧ sg (i + 1 + k) ≤ hiD (sg i) k (sg (i + k))
def fk (sg : Nat → Nat) (sz i : Nat) : Nat := fa_first (fun k => decide (¬ gd sg sz i k)) (nD (sg i))
abbrev okC (sg : Nat → Nat) (sz i : Nat) : Prop := isC (sg i) ∧ fk sg sz i = nD (sg i)
def dD (sg : Nat → Nat) (i k : Nat) : Nat := sg (i + 1 + k) - 48
def opC (σ : Sg) (sg : Nat → Nat) (i : Nat) : Sg :=
  if sg i = 97 then tHire σ (dD sg i 0) else if sg i = 112 then tPart σ
  else if sg i = 99 then tCast σ (dD sg i 0) (dD sg i 1 + 1) (10 * dD sg i 2 + dD sg i 3)
  else if sg i = 117 then tStudy σ (dD sg i 0) (dD sg i 1)
  else if sg i = 105 then tIll σ (dD sg i 0) (10 * dD sg i 1 + dD sg i 2) 1
  else tSlip σ (10 * dD sg i 0 + dD sg i 1) (dD sg i 2) (dD sg i 3) (10 * dD sg i 4 + dD sg i 5)
def loC (σ : Sg) (sg : Nat → Nat) (i : Nat) : Nat :=
  if sg i = 97 then (if dD sg i 0 ≤ 9 ∧ sA σ < 10 then 0 else 1) else if sg i = 112 then (if sP σ < 6 then 0 else 1)
  else if sg i = 99 then (if dD sg i 0 < sP σ ∧ 10 * dD sg i 2 + dD sg i 3 < 20 ∧ dD sg i 1 + 1 ≤ sA σ then 0 else 1)
  else if sg i = 117 then (if dD sg i 0 < sP σ ∧ dD sg i 1 < sA σ ∧ sC σ (dD sg i 0) < 4 ∧ rk σ (dD sg i 0) (dD sg i 1) = 0 then 0 else 1)
  else if sg i = 105 then (if dD sg i 0 < sA σ ∧ 10 * dD sg i 1 + dD sg i 2 < 20 then 0 else 1)
  else (if 10 * dD sg i 0 + dD sg i 1 < 20 ∧ dD sg i 2 < sP σ ∧ dD sg i 3 < sA σ ∧ 10 * dD sg i 4 + dD sg i 5 < 24 ∧ sS σ < 20 then 0 else 1)
theorem opC_wf {σ : Sg} (hW : Wf σ) (sg : Nat → Nat) (i : Nat) : Wf (opC σ sg i) := by
  unfold opC
  split; exact tHire_wf hW
  split; exact tPart_wf hW
  split; exact tCast_wf hW
  split; exact tStudy_wf hW
  split; exact tIll_wf hW (Nat.le_refl 1)
  exact tSlip_wf hW
/-- where the commands begin, what the run made, how many were left out -/
def pos (sg : Nat → Nat) : Nat → Nat
  | 0 => 1
  | c + 1 => pos sg c + 1 + nD (sg (pos sg c))
def stC (sg : Nat → Nat) : Nat → Sg
  | 0 => o0
  | c + 1 => opC (stC sg c) sg (pos sg c)
def ouC (sg : Nat → Nat) : Nat → Nat
  | 0 => 0
  | c + 1 => ouC sg c + loC (stC sg c) sg (pos sg c)
abbrev eC (sg : Nat → Nat) (sz c : Nat) : Bool := decide (sz ≤ pos sg c ∨ ¬ okC sg sz (pos sg c))
def nC (sg : Nat → Nat) (sz : Nat) : Nat := fa_first (eC sg sz) (sz + 1)
/-- where the text is wrong, and one more; 0: nowhere -/
def flt (sg : Nat → Nat) (sz : Nat) : Nat :=
  if sz = 0 ∨ sg 0 ≠ 66 then 1
  else if sz ≤ pos sg (nC sg sz) then 0
  else if isC (sg (pos sg (nC sg sz))) then pos sg (nC sg sz) + 1 + fk sg sz (pos sg (nC sg sz)) + 1
  else pos sg (nC sg sz) + 1
theorem nD_le (c : Nat) : nD c ≤ 6 := by unfold nD; split <;> (try split) <;> (try split) <;> (try split) <;> (try split) <;> omega
theorem pos_ge (sg : Nat → Nat) : ∀ c, c + 1 ≤ pos sg c
  | 0 => Nat.le_refl 1
  | c + 1 => by have := pos_ge sg c; rw [pos]; omega
theorem stC_wf (sg : Nat → Nat) : ∀ c, Wf (stC sg c)
  | 0 => o0_wf
  | c + 1 => opC_wf (stC_wf sg c) sg _
theorem loC_le (σ : Sg) (sg : Nat → Nat) (i : Nat) : loC σ sg i ≤ 1 := by
  unfold loC
  split; split <;> omega
  split; split <;> omega
  split; split <;> omega
  split; split <;> omega
  split; split <;> omega
  split <;> omega
theorem ouC_le (sg : Nat → Nat) : ∀ c, ouC sg c ≤ c
  | 0 => Nat.le_refl 0
  | c + 1 => by have := ouC_le sg c; have := loC_le (stC sg c) sg (pos sg c); rw [ouC]; omega
theorem nC_at {sg : Nat → Nat} {sz c : Nat} (h : sz ≤ pos sg c ∨ ¬ okC sg sz (pos sg c)) (h0 : ∀ j, j < c → pos sg j < sz ∧ okC sg sz (pos sg j)) : nC sg sz = c := by
  have hc : c < sz + 1 := by
    rcases Nat.lt_or_ge c (sz + 1) with q | q
    · exact q
    · have h1 := (h0 (c - 1) (by omega)).1
      have h2 := pos_ge sg (c - 1)
      omega
  refine fa_first_at hc (decide_eq_true h) (fun j hj => decide_eq_false ?_)
  obtain ⟨h1, h2⟩ := h0 j hj
  rintro (z | z)
  · omega
  · exact z h2
theorem fk_le (sg : Nat → Nat) (sz i : Nat) : fk sg sz i ≤ nD (sg i) := fa_first_le _ _
theorem fk_gd {sg : Nat → Nat} {sz i k : Nat} (h : k < fk sg sz i) : gd sg sz i k := Decidable.not_not.mp (of_decide_eq_false (fa_first_no _ _ k h))
theorem fk_bad {sg : Nat → Nat} {sz i : Nat} (h : fk sg sz i < nD (sg i)) : ¬ gd sg sz i (fk sg sz i) := of_decide_eq_true (fa_first_yes (fun k => decide (¬ gd sg sz i k)) (nD (sg i)) h)
theorem fk_at {sg : Nat → Nat} {sz i k : Nat} (hk : k < nD (sg i)) (h : ¬ gd sg sz i k) (h0 : ∀ j, j < k → gd sg sz i j) : fk sg sz i = k := fa_first_at hk (decide_eq_true h) (fun j hj => decide_eq_false (fun z => z (h0 j hj)))
theorem fk_all {sg : Nat → Nat} {sz i : Nat} (h0 : ∀ j, j < nD (sg i) → gd sg sz i j) : fk sg sz i = nD (sg i) := by
  rcases Nat.lt_or_ge (fk sg sz i) (nD (sg i)) with q | q
  · exact absurd (h0 _ q) (fk_bad q)
  · exact Nat.le_antisymm (fk_le _ _ _) q
theorem in_ch {c : Nat} (h : c < 256) : (lN 0 ≤ (nI c - nI 48).toInt64 ∧ (nI c - nI 48).toInt64 ≤ lN 9) ↔ 48 ≤ c ∧ c ≤ 57 := by
  rw [in_r (by decide)]
  unfold vI
  rw [Int32.toInt_sub, nI_toInt (by omega), nI_toInt (by decide), Int.bmod_eq_of_le (by omega) (by omega)]
  omega
theorem in_m1 : (lN 0 ≤ (mI 0).toInt64 ∧ (mI 0).toInt64 ≤ lN 9) ↔ False := by decide
set_option maxRecDepth 100000 in
set_option maxHeartbeats 1000000 in
theorem c_X6_figures__1 {l : Launch} {E : Ev} {hM rf x1 sz x3 x4 x5 ac x7 x8 x9 x10 x11 sp ou : Nat} {tx : Nat → Int32} {sg : Nat → Nat} (hT : TxR sg sz tx) {x h : Nat} (hsp : sp ≤ 120) (hx : x < 2147483648) (hh : h < 2147483648) (h1 : sp < sz ∧ 48 ≤ sg sp ∧ sg sp ≤ 57) (h2 : sg sp ≤ 48 + h) : Ct l E yX6_figures cX6_figures 7 (some FieldType.int) 1 25 [.ref hM, .int (nI x), .int (nI 1), .int (nI h)] [(hM, .inr (6, [.int (nI rf), .ref x1, .int (nI sz), .ref x3, .ref x4, .ref x5, .int (nI ac), .ref x7, .ref x8, .ref x9, .ref x10, .ref x11, .int (nI sp), .int (nI ou)])), (x1, .inl (eI E, 120, .inl tx))] (fun v9 w9 => v9 = some (.int (nI (sg sp - 48))) ∧ w9 = [(hM, .inr (6, [.int (nI rf), .ref x1, .int (nI sz), .ref x3, .ref x4, .ref x5, .int (nI ac), .ref x7, .ref x8, .ref x9, .ref x10, .ref x11, .int (nI (sp + 1)), .int (nI ou)])), (x1, .inl (eI E, 120, .inl tx))]) := by
  have hTz := hT.1
  refine ct_of (by decide +kernel) (Nat.le_of_ble_eq_true rfl) (fun ω C RT => ?_)
  show ω [(hM, .inr (6, [.int (nI rf), .ref x1, .int (nI sz), .ref x3, .ref x4, .ref x5, .int (nI ac), .ref x7, .ref x8, .ref x9, .ref x10, .ref x11, .int (nI sp), .int (nI ou)])), (x1, .inl (eI E, 120, .inl tx))] [(0, .ref hM), (1, .int (nI x)), (2, .int (nI 1)), (3, .int (nI h))] [] 0
  refine r_iconst C dX6_figures_0 ki_0 ?_
  refine r_istore C (lv' := [(4, .int (nI 0)), (0, .ref hM), (1, .int (nI x)), (2, .int (nI 1)), (3, .int (nI h))]) dX6_figures_1 (by decide) rfl ?_
  refine r_iload_n C (i := 2) 3 dX6_figures_3 rfl rfl ?_
  refine r_iconst C dX6_figures_4 ki_2 ?_
  refine r_icmp_neT C 13 dX6_figures_5 (by decide) ((c_neNN (by omega) (by omega)).mpr (by decide)) ?_
  refine r_iconst C dX6_figures_13 ki_1 ?_
  refine r_istore C (lv' := [(5, .int (nI 1)), (4, .int (nI 0)), (0, .ref hM), (1, .int (nI x)), (2, .int (nI 1)), (3, .int (nI h))]) dX6_figures_14 (by decide) rfl ?_
  refine r_iload C (i := 5) 0 dX6_figures_16 rfl ?_
  refine r_if_leF C (y := 0) (tgt := 112) dX6_figures_18 (by decide) (fun z => ((by decide) : ¬ (1 = 0)) ((z_leN (by omega)).mp z)) ?_
  refine r_iload_n C (i := 1) 3 dX6_figures_21 rfl rfl ?_
  refine r_iconst C dX6_figures_22 ki_m1 ?_
  refine r_icmp_eqF C (tgt := 112) dX6_figures_23 (by decide) (fun z => ((by omega) : ¬ (x + 1 = 0)) ((c_eqNM (by omega) (by omega)).mp z)) ?_
  refine r_aload_n C (i := 0) 2 dX6_figures_26 rfl rfl ?_
  refine r_get C 0 12 uX6 rfl rfl (by decide) w_5_73 rfl dX6_figures_27 ?_
  refine r_aload_n C (i := 0) 2 dX6_figures_30 rfl rfl ?_
  refine r_get C 0 2 uX6 rfl rfl (by decide) w_5_63 rfl dX6_figures_31 ?_
  refine r_icmp_ge C (c9 := sz ≤ sp) 52 dX6_figures_34 (by decide) (c_leNN (by omega) (by omega)) (fun h34_1 => ?_) (fun h34_1 => ?_)
  · refine r_iconst C dX6_figures_52 ki_m1 ?_
    refine r_istore C (lv' := [(6, .int (mI 0)), (5, .int (nI 1)), (4, .int (nI 0)), (0, .ref hM), (1, .int (nI x)), (2, .int (nI 1)), (3, .int (nI h))]) dX6_figures_53 (by decide) rfl ?_
    refine r_iload C (i := 6) 0 dX6_figures_55 rfl ?_
    refine r_i2l (v := (mI 0).toInt64) C dX6_figures_57 rfl ?_
    refine r_lconst (v := lN 0) C dX6_figures_58 (by decide +kernel) ?_
    refine r_ldc2 (v := lN 9) C dX6_figures_59 w_5_140 ?_
    refine r_readS (rest := []) C (c_X6_in (v := (mI 0).toInt64) (lw := lN 0) (hg := lN 9)) lk_X6_in w_5_113 [] dX6_figures_62 rfl rfl rfl ⟨by decide, by decide⟩ (Nat.le_of_ble_eq_true rfl) (st' := [.int (bP (lN 0 ≤ (mI 0).toInt64 ∧ (mI 0).toInt64 ≤ lN 9))]) rfl ?_
    refine r_st (st' := [.int (bP False)]) (by rw [bP_c (in_m1)]) ?_
    refine r_if_eqT C (y := 0) 80 dX6_figures_65 (by decide) (z_eqB.mpr not_false) ?_
    exfalso; omega
  · refine r_aload_n C (i := 0) 2 dX6_figures_37 rfl rfl ?_
    refine r_get C 0 1 uX6 rfl rfl (by decide) w_5_62 rfl dX6_figures_38 ?_
    refine r_aload_n C (i := 0) 2 dX6_figures_41 rfl rfl ?_
    refine r_get C 0 12 uX6 rfl rfl (by decide) w_5_73 rfl dX6_figures_42 ?_
    refine r_iald (j := sp) (v := nI (sg sp)) C 1 rfl (by omega) (by decide) ((hT.2 _ (by omega)).1) dX6_figures_45 ?_
    refine r_bipush C dX6_figures_46 kb_48 ?_
    refine r_isub (v := (nI (sg sp) - nI 48)) C dX6_figures_48 rfl ?_
    refine r_goto C 53 dX6_figures_49 (by decide) ?_
    refine r_istore C (lv' := [(6, .int (nI (sg sp) - nI 48)), (5, .int (nI 1)), (4, .int (nI 0)), (0, .ref hM), (1, .int (nI x)), (2, .int (nI 1)), (3, .int (nI h))]) dX6_figures_53 (by decide) rfl ?_
    refine r_iload C (i := 6) 0 dX6_figures_55 rfl ?_
    refine r_i2l (v := ((nI (sg sp) - nI 48)).toInt64) C dX6_figures_57 rfl ?_
    refine r_lconst (v := lN 0) C dX6_figures_58 (by decide +kernel) ?_
    refine r_ldc2 (v := lN 9) C dX6_figures_59 w_5_140 ?_
    refine r_readS (rest := []) C (c_X6_in (v := ((nI (sg sp) - nI 48)).toInt64) (lw := lN 0) (hg := lN 9)) lk_X6_in w_5_113 [] dX6_figures_62 rfl rfl rfl ⟨by decide, by decide⟩ (Nat.le_of_ble_eq_true rfl) (st' := [.int (bP (lN 0 ≤ ((nI (sg sp) - nI 48)).toInt64 ∧ ((nI (sg sp) - nI 48)).toInt64 ≤ lN 9))]) rfl ?_
    refine r_st (st' := [.int (bP (48 ≤ sg sp ∧ sg sp ≤ 57))]) (by rw [bP_c (in_ch (hT.2 _ (by omega)).2)]) ?_
    refine r_if_eq C (y := 0) (c9 := ¬ (48 ≤ sg sp ∧ sg sp ≤ 57)) 80 dX6_figures_65 (by decide) z_eqB (fun h65_2 => ?_) (fun h65_2 => ?_)
    · exfalso; omega
    · replace h65_2 : 48 ≤ sg sp ∧ sg sp ≤ 57 := Decidable.not_not.mp h65_2
      refine r_lo (lv' := [(6, .int (nI (sg sp - 48))), (5, .int (nI 1)), (4, .int (nI 0)), (0, .ref hM), (1, .int (nI x)), (2, .int (nI 1)), (3, .int (nI h))]) (by rw [v_sub (by omega)]) ?_
      refine r_iload C (i := 4) 2 dX6_figures_68 rfl ?_
      refine r_iload C (i := 6) 0 dX6_figures_70 rfl ?_
      refine r_iload C (i := 5) 1 dX6_figures_72 rfl ?_
      refine r_imul (v := nI ((sg sp - 48) * 1)) C dX6_figures_74 (pk_mul _ _) ?_
      refine r_iadd (v := nI (0 + ((sg sp - 48) * 1))) C dX6_figures_75 (nI_add _ _) ?_
      refine r_iload_n C (i := 3) 6 dX6_figures_76 rfl rfl ?_
      refine r_icmp_le C (c9 := 0 + ((sg sp - 48) * 1) ≤ h) 82 dX6_figures_77 (by decide) (c_leNN (by omega) (by omega)) (fun h77_3 => ?_) (fun h77_3 => ?_)
      · refine r_iload C (i := 4) 2 dX6_figures_82 rfl ?_
        refine r_iload C (i := 6) 0 dX6_figures_84 rfl ?_
        refine r_iload C (i := 5) 1 dX6_figures_86 rfl ?_
        refine r_imul (v := nI ((sg sp - 48) * 1)) C dX6_figures_88 (pk_mul _ _) ?_
        refine r_iadd (v := nI (0 + ((sg sp - 48) * 1))) C dX6_figures_89 (nI_add _ _) ?_
        refine r_istore C (lv' := [(4, .int (nI (0 + ((sg sp - 48) * 1)))), (6, .int (nI (sg sp - 48))), (5, .int (nI 1)), (0, .ref hM), (1, .int (nI x)), (2, .int (nI 1)), (3, .int (nI h))]) dX6_figures_90 (by decide) rfl ?_
        refine r_aload_n C (i := 0) 3 dX6_figures_92 rfl rfl ?_
        refine r_dup C dX6_figures_93 rfl ?_
        refine r_get C 0 12 uX6 rfl rfl (by decide) w_5_73 rfl dX6_figures_94 ?_
        refine r_iconst C dX6_figures_97 ki_1 ?_
        refine r_iadd (v := nI (sp + 1)) C dX6_figures_98 (nI_add _ _) ?_
        refine r_put (ws' := [(hM, .inr (6, [.int (nI rf), .ref x1, .int (nI sz), .ref x3, .ref x4, .ref x5, .int (nI ac), .ref x7, .ref x8, .ref x9, .ref x10, .ref x11, .int (nI (sp + 1)), .int (nI ou)])), (x1, .inl (eI E, 120, .inl tx))]) C 0 12 uX6 rfl tyX6_ok nmX6 rfl (by decide) w_5_73 rfl (tyX6_ok 12 (by decide)) rfl rfl (Nat.le_of_ble_eq_true rfl) rfl dX6_figures_99 ?_
        refine r_iload C (i := 5) 2 dX6_figures_102 rfl ?_
        refine r_bipush C dX6_figures_104 kb_10 ?_
        refine r_idiv (v := nI 0) C dX6_figures_106 (by decide) (by decide) ?_
        refine r_istore C (lv' := [(5, .int (nI 0)), (4, .int (nI (0 + ((sg sp - 48) * 1)))), (6, .int (nI (sg sp - 48))), (0, .ref hM), (1, .int (nI x)), (2, .int (nI 1)), (3, .int (nI h))]) dX6_figures_107 (by decide) rfl ?_
        refine r_goto C 16 dX6_figures_109 (by decide) ?_
        refine r_iload C (i := 5) 0 dX6_figures_16 rfl ?_
        refine r_if_leT C (y := 0) 112 dX6_figures_18 (by decide) ((z_leN (by omega)).mpr (by decide)) ?_
        refine r_iload_n C (i := 1) 4 dX6_figures_112 rfl rfl ?_
        refine r_iconst C dX6_figures_113 ki_m1 ?_
        refine r_icmp_neT C 121 dX6_figures_114 (by decide) ((c_neNM (by omega) (by omega)).mpr (by omega)) ?_
        refine r_iload C (i := 4) 1 dX6_figures_121 rfl ?_
        exact RT.1 _ _ _ _ _ dX6_figures_123 rfl rfl (⟨sv (congrArg nI (by omega)), rfl⟩) rfl
      · exfalso; omega
set_option maxRecDepth 100000 in
set_option maxHeartbeats 1000000 in
theorem c_X6_figures__1b {l : Launch} {E : Ev} {hM rf x1 sz x3 x4 x5 ac x7 x8 x9 x10 x11 sp ou : Nat} {tx : Nat → Int32} {sg : Nat → Nat} (hT : TxR sg sz tx) {x h : Nat} (hsp : sp ≤ 120) (hx : x < 2147483648) (hh : h < 2147483648) (h1 : ¬ (sp < sz ∧ 48 ≤ sg sp ∧ sg sp ≤ 57 ∧ sg sp ≤ 48 + h)) : Ct l E yX6_figures cX6_figures 7 (some FieldType.int) 1 25 [.ref hM, .int (nI x), .int (nI 1), .int (nI h)] [(hM, .inr (6, [.int (nI rf), .ref x1, .int (nI sz), .ref x3, .ref x4, .ref x5, .int (nI ac), .ref x7, .ref x8, .ref x9, .ref x10, .ref x11, .int (nI sp), .int (nI ou)])), (x1, .inl (eI E, 120, .inl tx))] (fun v9 w9 => v9 = some (.int (mI 0)) ∧ w9 = [(hM, .inr (6, [.int (nI rf), .ref x1, .int (nI sz), .ref x3, .ref x4, .ref x5, .int (nI ac), .ref x7, .ref x8, .ref x9, .ref x10, .ref x11, .int (nI sp), .int (nI ou)])), (x1, .inl (eI E, 120, .inl tx))]) := by
  have hTz := hT.1
  refine ct_of (by decide +kernel) (Nat.le_of_ble_eq_true rfl) (fun ω C RT => ?_)
  show ω [(hM, .inr (6, [.int (nI rf), .ref x1, .int (nI sz), .ref x3, .ref x4, .ref x5, .int (nI ac), .ref x7, .ref x8, .ref x9, .ref x10, .ref x11, .int (nI sp), .int (nI ou)])), (x1, .inl (eI E, 120, .inl tx))] [(0, .ref hM), (1, .int (nI x)), (2, .int (nI 1)), (3, .int (nI h))] [] 0
  refine r_iconst C dX6_figures_0 ki_0 ?_
  refine r_istore C (lv' := [(4, .int (nI 0)), (0, .ref hM), (1, .int (nI x)), (2, .int (nI 1)), (3, .int (nI h))]) dX6_figures_1 (by decide) rfl ?_
  refine r_iload_n C (i := 2) 3 dX6_figures_3 rfl rfl ?_
  refine r_iconst C dX6_figures_4 ki_2 ?_
  refine r_icmp_neT C 13 dX6_figures_5 (by decide) ((c_neNN (by omega) (by omega)).mpr (by decide)) ?_
  refine r_iconst C dX6_figures_13 ki_1 ?_
  refine r_istore C (lv' := [(5, .int (nI 1)), (4, .int (nI 0)), (0, .ref hM), (1, .int (nI x)), (2, .int (nI 1)), (3, .int (nI h))]) dX6_figures_14 (by decide) rfl ?_
  refine r_iload C (i := 5) 0 dX6_figures_16 rfl ?_
  refine r_if_leF C (y := 0) (tgt := 112) dX6_figures_18 (by decide) (fun z => ((by decide) : ¬ (1 = 0)) ((z_leN (by omega)).mp z)) ?_
  refine r_iload_n C (i := 1) 3 dX6_figures_21 rfl rfl ?_
  refine r_iconst C dX6_figures_22 ki_m1 ?_
  refine r_icmp_eqF C (tgt := 112) dX6_figures_23 (by decide) (fun z => ((by omega) : ¬ (x + 1 = 0)) ((c_eqNM (by omega) (by omega)).mp z)) ?_
  refine r_aload_n C (i := 0) 2 dX6_figures_26 rfl rfl ?_
  refine r_get C 0 12 uX6 rfl rfl (by decide) w_5_73 rfl dX6_figures_27 ?_
  refine r_aload_n C (i := 0) 2 dX6_figures_30 rfl rfl ?_
  refine r_get C 0 2 uX6 rfl rfl (by decide) w_5_63 rfl dX6_figures_31 ?_
  refine r_icmp_ge C (c9 := sz ≤ sp) 52 dX6_figures_34 (by decide) (c_leNN (by omega) (by omega)) (fun h34_1 => ?_) (fun h34_1 => ?_)
  · refine r_iconst C dX6_figures_52 ki_m1 ?_
    refine r_istore C (lv' := [(6, .int (mI 0)), (5, .int (nI 1)), (4, .int (nI 0)), (0, .ref hM), (1, .int (nI x)), (2, .int (nI 1)), (3, .int (nI h))]) dX6_figures_53 (by decide) rfl ?_
    refine r_iload C (i := 6) 0 dX6_figures_55 rfl ?_
    refine r_i2l (v := (mI 0).toInt64) C dX6_figures_57 rfl ?_
    refine r_lconst (v := lN 0) C dX6_figures_58 (by decide +kernel) ?_
    refine r_ldc2 (v := lN 9) C dX6_figures_59 w_5_140 ?_
    refine r_readS (rest := []) C (c_X6_in (v := (mI 0).toInt64) (lw := lN 0) (hg := lN 9)) lk_X6_in w_5_113 [] dX6_figures_62 rfl rfl rfl ⟨by decide, by decide⟩ (Nat.le_of_ble_eq_true rfl) (st' := [.int (bP (lN 0 ≤ (mI 0).toInt64 ∧ (mI 0).toInt64 ≤ lN 9))]) rfl ?_
    refine r_st (st' := [.int (bP False)]) (by rw [bP_c (in_m1)]) ?_
    refine r_if_eqT C (y := 0) 80 dX6_figures_65 (by decide) (z_eqB.mpr not_false) ?_
    refine r_iconst C dX6_figures_80 ki_m1 ?_
    exact RT.1 _ _ _ _ _ dX6_figures_81 rfl rfl (⟨rfl, rfl⟩) rfl
  · refine r_aload_n C (i := 0) 2 dX6_figures_37 rfl rfl ?_
    refine r_get C 0 1 uX6 rfl rfl (by decide) w_5_62 rfl dX6_figures_38 ?_
    refine r_aload_n C (i := 0) 2 dX6_figures_41 rfl rfl ?_
    refine r_get C 0 12 uX6 rfl rfl (by decide) w_5_73 rfl dX6_figures_42 ?_
    refine r_iald (j := sp) (v := nI (sg sp)) C 1 rfl (by omega) (by decide) ((hT.2 _ (by omega)).1) dX6_figures_45 ?_
    refine r_bipush C dX6_figures_46 kb_48 ?_
    refine r_isub (v := (nI (sg sp) - nI 48)) C dX6_figures_48 rfl ?_
    refine r_goto C 53 dX6_figures_49 (by decide) ?_
    refine r_istore C (lv' := [(6, .int (nI (sg sp) - nI 48)), (5, .int (nI 1)), (4, .int (nI 0)), (0, .ref hM), (1, .int (nI x)), (2, .int (nI 1)), (3, .int (nI h))]) dX6_figures_53 (by decide) rfl ?_
    refine r_iload C (i := 6) 0 dX6_figures_55 rfl ?_
    refine r_i2l (v := ((nI (sg sp) - nI 48)).toInt64) C dX6_figures_57 rfl ?_
    refine r_lconst (v := lN 0) C dX6_figures_58 (by decide +kernel) ?_
    refine r_ldc2 (v := lN 9) C dX6_figures_59 w_5_140 ?_
    refine r_readS (rest := []) C (c_X6_in (v := ((nI (sg sp) - nI 48)).toInt64) (lw := lN 0) (hg := lN 9)) lk_X6_in w_5_113 [] dX6_figures_62 rfl rfl rfl ⟨by decide, by decide⟩ (Nat.le_of_ble_eq_true rfl) (st' := [.int (bP (lN 0 ≤ ((nI (sg sp) - nI 48)).toInt64 ∧ ((nI (sg sp) - nI 48)).toInt64 ≤ lN 9))]) rfl ?_
    refine r_st (st' := [.int (bP (48 ≤ sg sp ∧ sg sp ≤ 57))]) (by rw [bP_c (in_ch (hT.2 _ (by omega)).2)]) ?_
    refine r_if_eq C (y := 0) (c9 := ¬ (48 ≤ sg sp ∧ sg sp ≤ 57)) 80 dX6_figures_65 (by decide) z_eqB (fun h65_2 => ?_) (fun h65_2 => ?_)
    · refine r_iconst C dX6_figures_80 ki_m1 ?_
      exact RT.1 _ _ _ _ _ dX6_figures_81 rfl rfl (⟨rfl, rfl⟩) rfl
    · replace h65_2 : 48 ≤ sg sp ∧ sg sp ≤ 57 := Decidable.not_not.mp h65_2
      refine r_lo (lv' := [(6, .int (nI (sg sp - 48))), (5, .int (nI 1)), (4, .int (nI 0)), (0, .ref hM), (1, .int (nI x)), (2, .int (nI 1)), (3, .int (nI h))]) (by rw [v_sub (by omega)]) ?_
      refine r_iload C (i := 4) 2 dX6_figures_68 rfl ?_
      refine r_iload C (i := 6) 0 dX6_figures_70 rfl ?_
      refine r_iload C (i := 5) 1 dX6_figures_72 rfl ?_
      refine r_imul (v := nI ((sg sp - 48) * 1)) C dX6_figures_74 (pk_mul _ _) ?_
      refine r_iadd (v := nI (0 + ((sg sp - 48) * 1))) C dX6_figures_75 (nI_add _ _) ?_
      refine r_iload_n C (i := 3) 6 dX6_figures_76 rfl rfl ?_
      refine r_icmp_le C (c9 := 0 + ((sg sp - 48) * 1) ≤ h) 82 dX6_figures_77 (by decide) (c_leNN (by omega) (by omega)) (fun h77_3 => ?_) (fun h77_3 => ?_)
      · exfalso; omega
      · refine r_iconst C dX6_figures_80 ki_m1 ?_
        exact RT.1 _ _ _ _ _ dX6_figures_81 rfl rfl (⟨rfl, rfl⟩) rfl
set_option maxRecDepth 100000 in
set_option maxHeartbeats 1000000 in
theorem c_X6_figures__2 {l : Launch} {E : Ev} {hM rf x1 sz x3 x4 x5 ac x7 x8 x9 x10 x11 sp ou : Nat} {tx : Nat → Int32} {sg : Nat → Nat} (hT : TxR sg sz tx) {x h : Nat} (hsp : sp ≤ 120) (hx : x < 2147483648) (hh : h < 2147483648) (h1 : sp < sz ∧ 48 ≤ sg sp ∧ sg sp ≤ 57) (h2 : sp + 1 < sz ∧ 48 ≤ sg (sp + 1) ∧ sg (sp + 1) ≤ 57) (h3 : 10 * (sg sp - 48) + (sg (sp + 1) - 48) ≤ h) : Ct l E yX6_figures cX6_figures 7 (some FieldType.int) 1 25 [.ref hM, .int (nI x), .int (nI 2), .int (nI h)] [(hM, .inr (6, [.int (nI rf), .ref x1, .int (nI sz), .ref x3, .ref x4, .ref x5, .int (nI ac), .ref x7, .ref x8, .ref x9, .ref x10, .ref x11, .int (nI sp), .int (nI ou)])), (x1, .inl (eI E, 120, .inl tx))] (fun v9 w9 => v9 = some (.int (nI (10 * (sg sp - 48) + (sg (sp + 1) - 48)))) ∧ w9 = [(hM, .inr (6, [.int (nI rf), .ref x1, .int (nI sz), .ref x3, .ref x4, .ref x5, .int (nI ac), .ref x7, .ref x8, .ref x9, .ref x10, .ref x11, .int (nI (sp + 2)), .int (nI ou)])), (x1, .inl (eI E, 120, .inl tx))]) := by
  have hTz := hT.1
  refine ct_of (by decide +kernel) (Nat.le_of_ble_eq_true rfl) (fun ω C RT => ?_)
  show ω [(hM, .inr (6, [.int (nI rf), .ref x1, .int (nI sz), .ref x3, .ref x4, .ref x5, .int (nI ac), .ref x7, .ref x8, .ref x9, .ref x10, .ref x11, .int (nI sp), .int (nI ou)])), (x1, .inl (eI E, 120, .inl tx))] [(0, .ref hM), (1, .int (nI x)), (2, .int (nI 2)), (3, .int (nI h))] [] 0
  refine r_iconst C dX6_figures_0 ki_0 ?_
  refine r_istore C (lv' := [(4, .int (nI 0)), (0, .ref hM), (1, .int (nI x)), (2, .int (nI 2)), (3, .int (nI h))]) dX6_figures_1 (by decide) rfl ?_
  refine r_iload_n C (i := 2) 3 dX6_figures_3 rfl rfl ?_
  refine r_iconst C dX6_figures_4 ki_2 ?_
  refine r_icmp_neF C (tgt := 13) dX6_figures_5 (by decide) (fun z => ((by decide) : ¬ (2 ≠ 2)) ((c_neNN (by omega) (by omega)).mp z)) ?_
  refine r_bipush C dX6_figures_8 kb_10 ?_
  refine r_goto C 14 dX6_figures_10 (by decide) ?_
  refine r_istore C (lv' := [(5, .int (nI 10)), (4, .int (nI 0)), (0, .ref hM), (1, .int (nI x)), (2, .int (nI 2)), (3, .int (nI h))]) dX6_figures_14 (by decide) rfl ?_
  refine r_iload C (i := 5) 0 dX6_figures_16 rfl ?_
  refine r_if_leF C (y := 0) (tgt := 112) dX6_figures_18 (by decide) (fun z => ((by decide) : ¬ (10 = 0)) ((z_leN (by omega)).mp z)) ?_
  refine r_iload_n C (i := 1) 3 dX6_figures_21 rfl rfl ?_
  refine r_iconst C dX6_figures_22 ki_m1 ?_
  refine r_icmp_eqF C (tgt := 112) dX6_figures_23 (by decide) (fun z => ((by omega) : ¬ (x + 1 = 0)) ((c_eqNM (by omega) (by omega)).mp z)) ?_
  refine r_aload_n C (i := 0) 2 dX6_figures_26 rfl rfl ?_
  refine r_get C 0 12 uX6 rfl rfl (by decide) w_5_73 rfl dX6_figures_27 ?_
  refine r_aload_n C (i := 0) 2 dX6_figures_30 rfl rfl ?_
  refine r_get C 0 2 uX6 rfl rfl (by decide) w_5_63 rfl dX6_figures_31 ?_
  refine r_icmp_ge C (c9 := sz ≤ sp) 52 dX6_figures_34 (by decide) (c_leNN (by omega) (by omega)) (fun h34_1 => ?_) (fun h34_1 => ?_)
  · refine r_iconst C dX6_figures_52 ki_m1 ?_
    refine r_istore C (lv' := [(6, .int (mI 0)), (5, .int (nI 10)), (4, .int (nI 0)), (0, .ref hM), (1, .int (nI x)), (2, .int (nI 2)), (3, .int (nI h))]) dX6_figures_53 (by decide) rfl ?_
    refine r_iload C (i := 6) 0 dX6_figures_55 rfl ?_
    refine r_i2l (v := (mI 0).toInt64) C dX6_figures_57 rfl ?_
    refine r_lconst (v := lN 0) C dX6_figures_58 (by decide +kernel) ?_
    refine r_ldc2 (v := lN 9) C dX6_figures_59 w_5_140 ?_
    refine r_readS (rest := []) C (c_X6_in (v := (mI 0).toInt64) (lw := lN 0) (hg := lN 9)) lk_X6_in w_5_113 [] dX6_figures_62 rfl rfl rfl ⟨by decide, by decide⟩ (Nat.le_of_ble_eq_true rfl) (st' := [.int (bP (lN 0 ≤ (mI 0).toInt64 ∧ (mI 0).toInt64 ≤ lN 9))]) rfl ?_
    refine r_st (st' := [.int (bP False)]) (by rw [bP_c (in_m1)]) ?_
    refine r_if_eqT C (y := 0) 80 dX6_figures_65 (by decide) (z_eqB.mpr not_false) ?_
    exfalso; omega
  · refine r_aload_n C (i := 0) 2 dX6_figures_37 rfl rfl ?_
    refine r_get C 0 1 uX6 rfl rfl (by decide) w_5_62 rfl dX6_figures_38 ?_
    refine r_aload_n C (i := 0) 2 dX6_figures_41 rfl rfl ?_
    refine r_get C 0 12 uX6 rfl rfl (by decide) w_5_73 rfl dX6_figures_42 ?_
    refine r_iald (j := sp) (v := nI (sg sp)) C 1 rfl (by omega) (by decide) ((hT.2 _ (by omega)).1) dX6_figures_45 ?_
    refine r_bipush C dX6_figures_46 kb_48 ?_
    refine r_isub (v := (nI (sg sp) - nI 48)) C dX6_figures_48 rfl ?_
    refine r_goto C 53 dX6_figures_49 (by decide) ?_
    refine r_istore C (lv' := [(6, .int (nI (sg sp) - nI 48)), (5, .int (nI 10)), (4, .int (nI 0)), (0, .ref hM), (1, .int (nI x)), (2, .int (nI 2)), (3, .int (nI h))]) dX6_figures_53 (by decide) rfl ?_
    refine r_iload C (i := 6) 0 dX6_figures_55 rfl ?_
    refine r_i2l (v := ((nI (sg sp) - nI 48)).toInt64) C dX6_figures_57 rfl ?_
    refine r_lconst (v := lN 0) C dX6_figures_58 (by decide +kernel) ?_
    refine r_ldc2 (v := lN 9) C dX6_figures_59 w_5_140 ?_
    refine r_readS (rest := []) C (c_X6_in (v := ((nI (sg sp) - nI 48)).toInt64) (lw := lN 0) (hg := lN 9)) lk_X6_in w_5_113 [] dX6_figures_62 rfl rfl rfl ⟨by decide, by decide⟩ (Nat.le_of_ble_eq_true rfl) (st' := [.int (bP (lN 0 ≤ ((nI (sg sp) - nI 48)).toInt64 ∧ ((nI (sg sp) - nI 48)).toInt64 ≤ lN 9))]) rfl ?_
    refine r_st (st' := [.int (bP (48 ≤ sg sp ∧ sg sp ≤ 57))]) (by rw [bP_c (in_ch (hT.2 _ (by omega)).2)]) ?_
    refine r_if_eq C (y := 0) (c9 := ¬ (48 ≤ sg sp ∧ sg sp ≤ 57)) 80 dX6_figures_65 (by decide) z_eqB (fun h65_2 => ?_) (fun h65_2 => ?_)
    · exfalso; omega
    · replace h65_2 : 48 ≤ sg sp ∧ sg sp ≤ 57 := Decidable.not_not.mp h65_2
      refine r_lo (lv' := [(6, .int (nI (sg sp - 48))), (5, .int (nI 10)), (4, .int (nI 0)), (0, .ref hM), (1, .int (nI x)), (2, .int (nI 2)), (3, .int (nI h))]) (by rw [v_sub (by omega)]) ?_
      refine r_iload C (i := 4) 2 dX6_figures_68 rfl ?_
      refine r_iload C (i := 6) 0 dX6_figures_70 rfl ?_
      refine r_iload C (i := 5) 1 dX6_figures_72 rfl ?_
      refine r_imul (v := nI ((sg sp - 48) * 10)) C dX6_figures_74 (pk_mul _ _) ?_
      refine r_iadd (v := nI (0 + ((sg sp - 48) * 10))) C dX6_figures_75 (nI_add _ _) ?_
      refine r_iload_n C (i := 3) 6 dX6_figures_76 rfl rfl ?_
      refine r_icmp_le C (c9 := 0 + ((sg sp - 48) * 10) ≤ h) 82 dX6_figures_77 (by decide) (c_leNN (by omega) (by omega)) (fun h77_3 => ?_) (fun h77_3 => ?_)
      · refine r_iload C (i := 4) 2 dX6_figures_82 rfl ?_
        refine r_iload C (i := 6) 0 dX6_figures_84 rfl ?_
        refine r_iload C (i := 5) 1 dX6_figures_86 rfl ?_
        refine r_imul (v := nI ((sg sp - 48) * 10)) C dX6_figures_88 (pk_mul _ _) ?_
        refine r_iadd (v := nI (0 + ((sg sp - 48) * 10))) C dX6_figures_89 (nI_add _ _) ?_
        refine r_istore C (lv' := [(4, .int (nI (0 + ((sg sp - 48) * 10)))), (6, .int (nI (sg sp - 48))), (5, .int (nI 10)), (0, .ref hM), (1, .int (nI x)), (2, .int (nI 2)), (3, .int (nI h))]) dX6_figures_90 (by decide) rfl ?_
        refine r_aload_n C (i := 0) 3 dX6_figures_92 rfl rfl ?_
        refine r_dup C dX6_figures_93 rfl ?_
        refine r_get C 0 12 uX6 rfl rfl (by decide) w_5_73 rfl dX6_figures_94 ?_
        refine r_iconst C dX6_figures_97 ki_1 ?_
        refine r_iadd (v := nI (sp + 1)) C dX6_figures_98 (nI_add _ _) ?_
        refine r_put (ws' := [(hM, .inr (6, [.int (nI rf), .ref x1, .int (nI sz), .ref x3, .ref x4, .ref x5, .int (nI ac), .ref x7, .ref x8, .ref x9, .ref x10, .ref x11, .int (nI (sp + 1)), .int (nI ou)])), (x1, .inl (eI E, 120, .inl tx))]) C 0 12 uX6 rfl tyX6_ok nmX6 rfl (by decide) w_5_73 rfl (tyX6_ok 12 (by decide)) rfl rfl (Nat.le_of_ble_eq_true rfl) rfl dX6_figures_99 ?_
        refine r_iload C (i := 5) 2 dX6_figures_102 rfl ?_
        refine r_bipush C dX6_figures_104 kb_10 ?_
        refine r_idiv (v := nI 1) C dX6_figures_106 (by decide) (by decide) ?_
        refine r_istore C (lv' := [(5, .int (nI 1)), (4, .int (nI (0 + ((sg sp - 48) * 10)))), (6, .int (nI (sg sp - 48))), (0, .ref hM), (1, .int (nI x)), (2, .int (nI 2)), (3, .int (nI h))]) dX6_figures_107 (by decide) rfl ?_
        refine r_goto C 16 dX6_figures_109 (by decide) ?_
        refine r_iload C (i := 5) 0 dX6_figures_16 rfl ?_
        refine r_if_leF C (y := 0) (tgt := 112) dX6_figures_18 (by decide) (fun z => ((by decide) : ¬ (1 = 0)) ((z_leN (by omega)).mp z)) ?_
        refine r_iload_n C (i := 1) 4 dX6_figures_21 rfl rfl ?_
        refine r_iconst C dX6_figures_22 ki_m1 ?_
        refine r_icmp_eqF C (tgt := 112) dX6_figures_23 (by decide) (fun z => ((by omega) : ¬ (x + 1 = 0)) ((c_eqNM (by omega) (by omega)).mp z)) ?_
        refine r_aload_n C (i := 0) 3 dX6_figures_26 rfl rfl ?_
        refine r_get C 0 12 uX6 rfl rfl (by decide) w_5_73 rfl dX6_figures_27 ?_
        refine r_aload_n C (i := 0) 3 dX6_figures_30 rfl rfl ?_
        refine r_get C 0 2 uX6 rfl rfl (by decide) w_5_63 rfl dX6_figures_31 ?_
        refine r_icmp_ge C (c9 := sz ≤ sp + 1) 52 dX6_figures_34 (by decide) (c_leNN (by omega) (by omega)) (fun h34_4 => ?_) (fun h34_4 => ?_)
        · refine r_iconst C dX6_figures_52 ki_m1 ?_
          refine r_istore C (lv' := [(6, .int (mI 0)), (5, .int (nI 1)), (4, .int (nI (0 + ((sg sp - 48) * 10)))), (0, .ref hM), (1, .int (nI x)), (2, .int (nI 2)), (3, .int (nI h))]) dX6_figures_53 (by decide) rfl ?_
          refine r_iload C (i := 6) 0 dX6_figures_55 rfl ?_
          refine r_i2l (v := (mI 0).toInt64) C dX6_figures_57 rfl ?_
          refine r_lconst (v := lN 0) C dX6_figures_58 (by decide +kernel) ?_
          refine r_ldc2 (v := lN 9) C dX6_figures_59 w_5_140 ?_
          refine r_readS (rest := []) C (c_X6_in (v := (mI 0).toInt64) (lw := lN 0) (hg := lN 9)) lk_X6_in w_5_113 [] dX6_figures_62 rfl rfl rfl ⟨by decide, by decide⟩ (Nat.le_of_ble_eq_true rfl) (st' := [.int (bP (lN 0 ≤ (mI 0).toInt64 ∧ (mI 0).toInt64 ≤ lN 9))]) rfl ?_
          refine r_st (st' := [.int (bP False)]) (by rw [bP_c (in_m1)]) ?_
          refine r_if_eqT C (y := 0) 80 dX6_figures_65 (by decide) (z_eqB.mpr not_false) ?_
          exfalso; omega
        · refine r_aload_n C (i := 0) 3 dX6_figures_37 rfl rfl ?_
          refine r_get C 0 1 uX6 rfl rfl (by decide) w_5_62 rfl dX6_figures_38 ?_
          refine r_aload_n C (i := 0) 3 dX6_figures_41 rfl rfl ?_
          refine r_get C 0 12 uX6 rfl rfl (by decide) w_5_73 rfl dX6_figures_42 ?_
          refine r_iald (j := sp + 1) (v := nI (sg (sp + 1))) C 1 rfl (by omega) (by decide) ((hT.2 _ (by omega)).1) dX6_figures_45 ?_
          refine r_bipush C dX6_figures_46 kb_48 ?_
          refine r_isub (v := (nI (sg (sp + 1)) - nI 48)) C dX6_figures_48 rfl ?_
          refine r_goto C 53 dX6_figures_49 (by decide) ?_
          refine r_istore C (lv' := [(6, .int (nI (sg (sp + 1)) - nI 48)), (5, .int (nI 1)), (4, .int (nI (0 + ((sg sp - 48) * 10)))), (0, .ref hM), (1, .int (nI x)), (2, .int (nI 2)), (3, .int (nI h))]) dX6_figures_53 (by decide) rfl ?_
          refine r_iload C (i := 6) 0 dX6_figures_55 rfl ?_
          refine r_i2l (v := ((nI (sg (sp + 1)) - nI 48)).toInt64) C dX6_figures_57 rfl ?_
          refine r_lconst (v := lN 0) C dX6_figures_58 (by decide +kernel) ?_
          refine r_ldc2 (v := lN 9) C dX6_figures_59 w_5_140 ?_
          refine r_readS (rest := []) C (c_X6_in (v := ((nI (sg (sp + 1)) - nI 48)).toInt64) (lw := lN 0) (hg := lN 9)) lk_X6_in w_5_113 [] dX6_figures_62 rfl rfl rfl ⟨by decide, by decide⟩ (Nat.le_of_ble_eq_true rfl) (st' := [.int (bP (lN 0 ≤ ((nI (sg (sp + 1)) - nI 48)).toInt64 ∧ ((nI (sg (sp + 1)) - nI 48)).toInt64 ≤ lN 9))]) rfl ?_
          refine r_st (st' := [.int (bP (48 ≤ sg (sp + 1) ∧ sg (sp + 1) ≤ 57))]) (by rw [bP_c (in_ch (hT.2 _ (by omega)).2)]) ?_
          refine r_if_eq C (y := 0) (c9 := ¬ (48 ≤ sg (sp + 1) ∧ sg (sp + 1) ≤ 57)) 80 dX6_figures_65 (by decide) z_eqB (fun h65_5 => ?_) (fun h65_5 => ?_)
          · exfalso; omega
          · replace h65_5 : 48 ≤ sg (sp + 1) ∧ sg (sp + 1) ≤ 57 := Decidable.not_not.mp h65_5
            refine r_lo (lv' := [(6, .int (nI (sg (sp + 1) - 48))), (5, .int (nI 1)), (4, .int (nI (0 + ((sg sp - 48) * 10)))), (0, .ref hM), (1, .int (nI x)), (2, .int (nI 2)), (3, .int (nI h))]) (by rw [v_sub (by omega)]) ?_
            refine r_iload C (i := 4) 2 dX6_figures_68 rfl ?_
            refine r_iload C (i := 6) 0 dX6_figures_70 rfl ?_
            refine r_iload C (i := 5) 1 dX6_figures_72 rfl ?_
            refine r_imul (v := nI ((sg (sp + 1) - 48) * 1)) C dX6_figures_74 (pk_mul _ _) ?_
            refine r_iadd (v := nI ((0 + ((sg sp - 48) * 10)) + ((sg (sp + 1) - 48) * 1))) C dX6_figures_75 (nI_add _ _) ?_
            refine r_iload_n C (i := 3) 6 dX6_figures_76 rfl rfl ?_
            refine r_icmp_le C (c9 := (0 + ((sg sp - 48) * 10)) + ((sg (sp + 1) - 48) * 1) ≤ h) 82 dX6_figures_77 (by decide) (c_leNN (by omega) (by omega)) (fun h77_6 => ?_) (fun h77_6 => ?_)
            · refine r_iload C (i := 4) 2 dX6_figures_82 rfl ?_
              refine r_iload C (i := 6) 0 dX6_figures_84 rfl ?_
              refine r_iload C (i := 5) 1 dX6_figures_86 rfl ?_
              refine r_imul (v := nI ((sg (sp + 1) - 48) * 1)) C dX6_figures_88 (pk_mul _ _) ?_
              refine r_iadd (v := nI ((0 + ((sg sp - 48) * 10)) + ((sg (sp + 1) - 48) * 1))) C dX6_figures_89 (nI_add _ _) ?_
              refine r_istore C (lv' := [(4, .int (nI ((0 + ((sg sp - 48) * 10)) + ((sg (sp + 1) - 48) * 1)))), (6, .int (nI (sg (sp + 1) - 48))), (5, .int (nI 1)), (0, .ref hM), (1, .int (nI x)), (2, .int (nI 2)), (3, .int (nI h))]) dX6_figures_90 (by decide) rfl ?_
              refine r_aload_n C (i := 0) 3 dX6_figures_92 rfl rfl ?_
              refine r_dup C dX6_figures_93 rfl ?_
              refine r_get C 0 12 uX6 rfl rfl (by decide) w_5_73 rfl dX6_figures_94 ?_
              refine r_iconst C dX6_figures_97 ki_1 ?_
              refine r_iadd (v := nI ((sp + 1) + 1)) C dX6_figures_98 (nI_add _ _) ?_
              refine r_put (ws' := [(hM, .inr (6, [.int (nI rf), .ref x1, .int (nI sz), .ref x3, .ref x4, .ref x5, .int (nI ac), .ref x7, .ref x8, .ref x9, .ref x10, .ref x11, .int (nI ((sp + 1) + 1)), .int (nI ou)])), (x1, .inl (eI E, 120, .inl tx))]) C 0 12 uX6 rfl tyX6_ok nmX6 rfl (by decide) w_5_73 rfl (tyX6_ok 12 (by decide)) rfl rfl (Nat.le_of_ble_eq_true rfl) rfl dX6_figures_99 ?_
              refine r_iload C (i := 5) 2 dX6_figures_102 rfl ?_
              refine r_bipush C dX6_figures_104 kb_10 ?_
              refine r_idiv (v := nI 0) C dX6_figures_106 (by decide) (by decide) ?_
              refine r_istore C (lv' := [(5, .int (nI 0)), (4, .int (nI ((0 + ((sg sp - 48) * 10)) + ((sg (sp + 1) - 48) * 1)))), (6, .int (nI (sg (sp + 1) - 48))), (0, .ref hM), (1, .int (nI x)), (2, .int (nI 2)), (3, .int (nI h))]) dX6_figures_107 (by decide) rfl ?_
              refine r_goto C 16 dX6_figures_109 (by decide) ?_
              refine r_iload C (i := 5) 0 dX6_figures_16 rfl ?_
              refine r_if_leT C (y := 0) 112 dX6_figures_18 (by decide) ((z_leN (by omega)).mpr (by decide)) ?_
              refine r_iload_n C (i := 1) 4 dX6_figures_112 rfl rfl ?_
              refine r_iconst C dX6_figures_113 ki_m1 ?_
              refine r_icmp_neT C 121 dX6_figures_114 (by decide) ((c_neNM (by omega) (by omega)).mpr (by omega)) ?_
              refine r_iload C (i := 4) 1 dX6_figures_121 rfl ?_
              exact RT.1 _ _ _ _ _ dX6_figures_123 rfl rfl (⟨sv (congrArg nI (by omega)), rfl⟩) rfl
            · exfalso; omega
      · exfalso; omega
set_option maxRecDepth 100000 in
set_option maxHeartbeats 1000000 in
theorem c_X6_figures__2b0 {l : Launch} {E : Ev} {hM rf x1 sz x3 x4 x5 ac x7 x8 x9 x10 x11 sp ou : Nat} {tx : Nat → Int32} {sg : Nat → Nat} (hT : TxR sg sz tx) {x h : Nat} (hsp : sp ≤ 120) (hx : x < 2147483648) (hh : h < 2147483648) (h1 : ¬ (sp < sz ∧ 48 ≤ sg sp ∧ sg sp ≤ 57 ∧ 10 * (sg sp - 48) ≤ h)) : Ct l E yX6_figures cX6_figures 7 (some FieldType.int) 1 25 [.ref hM, .int (nI x), .int (nI 2), .int (nI h)] [(hM, .inr (6, [.int (nI rf), .ref x1, .int (nI sz), .ref x3, .ref x4, .ref x5, .int (nI ac), .ref x7, .ref x8, .ref x9, .ref x10, .ref x11, .int (nI sp), .int (nI ou)])), (x1, .inl (eI E, 120, .inl tx))] (fun v9 w9 => v9 = some (.int (mI 0)) ∧ w9 = [(hM, .inr (6, [.int (nI rf), .ref x1, .int (nI sz), .ref x3, .ref x4, .ref x5, .int (nI ac), .ref x7, .ref x8, .ref x9, .ref x10, .ref x11, .int (nI sp), .int (nI ou)])), (x1, .inl (eI E, 120, .inl tx))]) := by
  have hTz := hT.1
  refine ct_of (by decide +kernel) (Nat.le_of_ble_eq_true rfl) (fun ω C RT => ?_)
  show ω [(hM, .inr (6, [.int (nI rf), .ref x1, .int (nI sz), .ref x3, .ref x4, .ref x5, .int (nI ac), .ref x7, .ref x8, .ref x9, .ref x10, .ref x11, .int (nI sp), .int (nI ou)])), (x1, .inl (eI E, 120, .inl tx))] [(0, .ref hM), (1, .int (nI x)), (2, .int (nI 2)), (3, .int (nI h))] [] 0
  refine r_iconst C dX6_figures_0 ki_0 ?_
  refine r_istore C (lv' := [(4, .int (nI 0)), (0, .ref hM), (1, .int (nI x)), (2, .int (nI 2)), (3, .int (nI h))]) dX6_figures_1 (by decide) rfl ?_
  refine r_iload_n C (i := 2) 3 dX6_figures_3 rfl rfl ?_
  refine r_iconst C dX6_figures_4 ki_2 ?_
  refine r_icmp_neF C (tgt := 13) dX6_figures_5 (by decide) (fun z => ((by decide) : ¬ (2 ≠ 2)) ((c_neNN (by omega) (by omega)).mp z)) ?_
  refine r_bipush C dX6_figures_8 kb_10 ?_
  refine r_goto C 14 dX6_figures_10 (by decide) ?_
  refine r_istore C (lv' := [(5, .int (nI 10)), (4, .int (nI 0)), (0, .ref hM), (1, .int (nI x)), (2, .int (nI 2)), (3, .int (nI h))]) dX6_figures_14 (by decide) rfl ?_
  refine r_iload C (i := 5) 0 dX6_figures_16 rfl ?_
  refine r_if_leF C (y := 0) (tgt := 112) dX6_figures_18 (by decide) (fun z => ((by decide) : ¬ (10 = 0)) ((z_leN (by omega)).mp z)) ?_
  refine r_iload_n C (i := 1) 3 dX6_figures_21 rfl rfl ?_
  refine r_iconst C dX6_figures_22 ki_m1 ?_
  refine r_icmp_eqF C (tgt := 112) dX6_figures_23 (by decide) (fun z => ((by omega) : ¬ (x + 1 = 0)) ((c_eqNM (by omega) (by omega)).mp z)) ?_
  refine r_aload_n C (i := 0) 2 dX6_figures_26 rfl rfl ?_
  refine r_get C 0 12 uX6 rfl rfl (by decide) w_5_73 rfl dX6_figures_27 ?_
  refine r_aload_n C (i := 0) 2 dX6_figures_30 rfl rfl ?_
  refine r_get C 0 2 uX6 rfl rfl (by decide) w_5_63 rfl dX6_figures_31 ?_
  refine r_icmp_ge C (c9 := sz ≤ sp) 52 dX6_figures_34 (by decide) (c_leNN (by omega) (by omega)) (fun h34_1 => ?_) (fun h34_1 => ?_)
  · refine r_iconst C dX6_figures_52 ki_m1 ?_
    refine r_istore C (lv' := [(6, .int (mI 0)), (5, .int (nI 10)), (4, .int (nI 0)), (0, .ref hM), (1, .int (nI x)), (2, .int (nI 2)), (3, .int (nI h))]) dX6_figures_53 (by decide) rfl ?_
    refine r_iload C (i := 6) 0 dX6_figures_55 rfl ?_
    refine r_i2l (v := (mI 0).toInt64) C dX6_figures_57 rfl ?_
    refine r_lconst (v := lN 0) C dX6_figures_58 (by decide +kernel) ?_
    refine r_ldc2 (v := lN 9) C dX6_figures_59 w_5_140 ?_
    refine r_readS (rest := []) C (c_X6_in (v := (mI 0).toInt64) (lw := lN 0) (hg := lN 9)) lk_X6_in w_5_113 [] dX6_figures_62 rfl rfl rfl ⟨by decide, by decide⟩ (Nat.le_of_ble_eq_true rfl) (st' := [.int (bP (lN 0 ≤ (mI 0).toInt64 ∧ (mI 0).toInt64 ≤ lN 9))]) rfl ?_
    refine r_st (st' := [.int (bP False)]) (by rw [bP_c (in_m1)]) ?_
    refine r_if_eqT C (y := 0) 80 dX6_figures_65 (by decide) (z_eqB.mpr not_false) ?_
    refine r_iconst C dX6_figures_80 ki_m1 ?_
    exact RT.1 _ _ _ _ _ dX6_figures_81 rfl rfl (⟨rfl, rfl⟩) rfl
  · refine r_aload_n C (i := 0) 2 dX6_figures_37 rfl rfl ?_
    refine r_get C 0 1 uX6 rfl rfl (by decide) w_5_62 rfl dX6_figures_38 ?_
    refine r_aload_n C (i := 0) 2 dX6_figures_41 rfl rfl ?_
    refine r_get C 0 12 uX6 rfl rfl (by decide) w_5_73 rfl dX6_figures_42 ?_
    refine r_iald (j := sp) (v := nI (sg sp)) C 1 rfl (by omega) (by decide) ((hT.2 _ (by omega)).1) dX6_figures_45 ?_
    refine r_bipush C dX6_figures_46 kb_48 ?_
    refine r_isub (v := (nI (sg sp) - nI 48)) C dX6_figures_48 rfl ?_
    refine r_goto C 53 dX6_figures_49 (by decide) ?_
    refine r_istore C (lv' := [(6, .int (nI (sg sp) - nI 48)), (5, .int (nI 10)), (4, .int (nI 0)), (0, .ref hM), (1, .int (nI x)), (2, .int (nI 2)), (3, .int (nI h))]) dX6_figures_53 (by decide) rfl ?_
    refine r_iload C (i := 6) 0 dX6_figures_55 rfl ?_
    refine r_i2l (v := ((nI (sg sp) - nI 48)).toInt64) C dX6_figures_57 rfl ?_
    refine r_lconst (v := lN 0) C dX6_figures_58 (by decide +kernel) ?_
    refine r_ldc2 (v := lN 9) C dX6_figures_59 w_5_140 ?_
    refine r_readS (rest := []) C (c_X6_in (v := ((nI (sg sp) - nI 48)).toInt64) (lw := lN 0) (hg := lN 9)) lk_X6_in w_5_113 [] dX6_figures_62 rfl rfl rfl ⟨by decide, by decide⟩ (Nat.le_of_ble_eq_true rfl) (st' := [.int (bP (lN 0 ≤ ((nI (sg sp) - nI 48)).toInt64 ∧ ((nI (sg sp) - nI 48)).toInt64 ≤ lN 9))]) rfl ?_
    refine r_st (st' := [.int (bP (48 ≤ sg sp ∧ sg sp ≤ 57))]) (by rw [bP_c (in_ch (hT.2 _ (by omega)).2)]) ?_
    refine r_if_eq C (y := 0) (c9 := ¬ (48 ≤ sg sp ∧ sg sp ≤ 57)) 80 dX6_figures_65 (by decide) z_eqB (fun h65_2 => ?_) (fun h65_2 => ?_)
    · refine r_iconst C dX6_figures_80 ki_m1 ?_
      exact RT.1 _ _ _ _ _ dX6_figures_81 rfl rfl (⟨rfl, rfl⟩) rfl
    · replace h65_2 : 48 ≤ sg sp ∧ sg sp ≤ 57 := Decidable.not_not.mp h65_2
      refine r_lo (lv' := [(6, .int (nI (sg sp - 48))), (5, .int (nI 10)), (4, .int (nI 0)), (0, .ref hM), (1, .int (nI x)), (2, .int (nI 2)), (3, .int (nI h))]) (by rw [v_sub (by omega)]) ?_
      refine r_iload C (i := 4) 2 dX6_figures_68 rfl ?_
      refine r_iload C (i := 6) 0 dX6_figures_70 rfl ?_
      refine r_iload C (i := 5) 1 dX6_figures_72 rfl ?_
      refine r_imul (v := nI ((sg sp - 48) * 10)) C dX6_figures_74 (pk_mul _ _) ?_
      refine r_iadd (v := nI (0 + ((sg sp - 48) * 10))) C dX6_figures_75 (nI_add _ _) ?_
      refine r_iload_n C (i := 3) 6 dX6_figures_76 rfl rfl ?_
      refine r_icmp_le C (c9 := 0 + ((sg sp - 48) * 10) ≤ h) 82 dX6_figures_77 (by decide) (c_leNN (by omega) (by omega)) (fun h77_3 => ?_) (fun h77_3 => ?_)
      · exfalso; omega
      · refine r_iconst C dX6_figures_80 ki_m1 ?_
        exact RT.1 _ _ _ _ _ dX6_figures_81 rfl rfl (⟨rfl, rfl⟩) rfl
set_option maxRecDepth 100000 in
set_option maxHeartbeats 1000000 in
theorem c_X6_figures__2b1 {l : Launch} {E : Ev} {hM rf x1 sz x3 x4 x5 ac x7 x8 x9 x10 x11 sp ou : Nat} {tx : Nat → Int32} {sg : Nat → Nat} (hT : TxR sg sz tx) {x h : Nat} (hsp : sp ≤ 120) (hx : x < 2147483648) (hh : h < 2147483648) (h1 : sp < sz ∧ 48 ≤ sg sp ∧ sg sp ≤ 57 ∧ 10 * (sg sp - 48) ≤ h) (h2 : ¬ (sp + 1 < sz ∧ 48 ≤ sg (sp + 1) ∧ sg (sp + 1) ≤ 57 ∧ 10 * (sg sp - 48) + (sg (sp + 1) - 48) ≤ h)) : Ct l E yX6_figures cX6_figures 7 (some FieldType.int) 1 25 [.ref hM, .int (nI x), .int (nI 2), .int (nI h)] [(hM, .inr (6, [.int (nI rf), .ref x1, .int (nI sz), .ref x3, .ref x4, .ref x5, .int (nI ac), .ref x7, .ref x8, .ref x9, .ref x10, .ref x11, .int (nI sp), .int (nI ou)])), (x1, .inl (eI E, 120, .inl tx))] (fun v9 w9 => v9 = some (.int (mI 0)) ∧ w9 = [(hM, .inr (6, [.int (nI rf), .ref x1, .int (nI sz), .ref x3, .ref x4, .ref x5, .int (nI ac), .ref x7, .ref x8, .ref x9, .ref x10, .ref x11, .int (nI (sp + 1)), .int (nI ou)])), (x1, .inl (eI E, 120, .inl tx))]) := by
  have hTz := hT.1
  refine ct_of (by decide +kernel) (Nat.le_of_ble_eq_true rfl) (fun ω C RT => ?_)
  show ω [(hM, .inr (6, [.int (nI rf), .ref x1, .int (nI sz), .ref x3, .ref x4, .ref x5, .int (nI ac), .ref x7, .ref x8, .ref x9, .ref x10, .ref x11, .int (nI sp), .int (nI ou)])), (x1, .inl (eI E, 120, .inl tx))] [(0, .ref hM), (1, .int (nI x)), (2, .int (nI 2)), (3, .int (nI h))] [] 0
  refine r_iconst C dX6_figures_0 ki_0 ?_
  refine r_istore C (lv' := [(4, .int (nI 0)), (0, .ref hM), (1, .int (nI x)), (2, .int (nI 2)), (3, .int (nI h))]) dX6_figures_1 (by decide) rfl ?_
  refine r_iload_n C (i := 2) 3 dX6_figures_3 rfl rfl ?_
  refine r_iconst C dX6_figures_4 ki_2 ?_
  refine r_icmp_neF C (tgt := 13) dX6_figures_5 (by decide) (fun z => ((by decide) : ¬ (2 ≠ 2)) ((c_neNN (by omega) (by omega)).mp z)) ?_
  refine r_bipush C dX6_figures_8 kb_10 ?_
  refine r_goto C 14 dX6_figures_10 (by decide) ?_
  refine r_istore C (lv' := [(5, .int (nI 10)), (4, .int (nI 0)), (0, .ref hM), (1, .int (nI x)), (2, .int (nI 2)), (3, .int (nI h))]) dX6_figures_14 (by decide) rfl ?_
  refine r_iload C (i := 5) 0 dX6_figures_16 rfl ?_
  refine r_if_leF C (y := 0) (tgt := 112) dX6_figures_18 (by decide) (fun z => ((by decide) : ¬ (10 = 0)) ((z_leN (by omega)).mp z)) ?_
  refine r_iload_n C (i := 1) 3 dX6_figures_21 rfl rfl ?_
  refine r_iconst C dX6_figures_22 ki_m1 ?_
  refine r_icmp_eqF C (tgt := 112) dX6_figures_23 (by decide) (fun z => ((by omega) : ¬ (x + 1 = 0)) ((c_eqNM (by omega) (by omega)).mp z)) ?_
  refine r_aload_n C (i := 0) 2 dX6_figures_26 rfl rfl ?_
  refine r_get C 0 12 uX6 rfl rfl (by decide) w_5_73 rfl dX6_figures_27 ?_
  refine r_aload_n C (i := 0) 2 dX6_figures_30 rfl rfl ?_
  refine r_get C 0 2 uX6 rfl rfl (by decide) w_5_63 rfl dX6_figures_31 ?_
  refine r_icmp_ge C (c9 := sz ≤ sp) 52 dX6_figures_34 (by decide) (c_leNN (by omega) (by omega)) (fun h34_1 => ?_) (fun h34_1 => ?_)
  · refine r_iconst C dX6_figures_52 ki_m1 ?_
    refine r_istore C (lv' := [(6, .int (mI 0)), (5, .int (nI 10)), (4, .int (nI 0)), (0, .ref hM), (1, .int (nI x)), (2, .int (nI 2)), (3, .int (nI h))]) dX6_figures_53 (by decide) rfl ?_
    refine r_iload C (i := 6) 0 dX6_figures_55 rfl ?_
    refine r_i2l (v := (mI 0).toInt64) C dX6_figures_57 rfl ?_
    refine r_lconst (v := lN 0) C dX6_figures_58 (by decide +kernel) ?_
    refine r_ldc2 (v := lN 9) C dX6_figures_59 w_5_140 ?_
    refine r_readS (rest := []) C (c_X6_in (v := (mI 0).toInt64) (lw := lN 0) (hg := lN 9)) lk_X6_in w_5_113 [] dX6_figures_62 rfl rfl rfl ⟨by decide, by decide⟩ (Nat.le_of_ble_eq_true rfl) (st' := [.int (bP (lN 0 ≤ (mI 0).toInt64 ∧ (mI 0).toInt64 ≤ lN 9))]) rfl ?_
    refine r_st (st' := [.int (bP False)]) (by rw [bP_c (in_m1)]) ?_
    refine r_if_eqT C (y := 0) 80 dX6_figures_65 (by decide) (z_eqB.mpr not_false) ?_
    exfalso; omega
  · refine r_aload_n C (i := 0) 2 dX6_figures_37 rfl rfl ?_
    refine r_get C 0 1 uX6 rfl rfl (by decide) w_5_62 rfl dX6_figures_38 ?_
    refine r_aload_n C (i := 0) 2 dX6_figures_41 rfl rfl ?_
    refine r_get C 0 12 uX6 rfl rfl (by decide) w_5_73 rfl dX6_figures_42 ?_
    refine r_iald (j := sp) (v := nI (sg sp)) C 1 rfl (by omega) (by decide) ((hT.2 _ (by omega)).1) dX6_figures_45 ?_
    refine r_bipush C dX6_figures_46 kb_48 ?_
    refine r_isub (v := (nI (sg sp) - nI 48)) C dX6_figures_48 rfl ?_
    refine r_goto C 53 dX6_figures_49 (by decide) ?_
    refine r_istore C (lv' := [(6, .int (nI (sg sp) - nI 48)), (5, .int (nI 10)), (4, .int (nI 0)), (0, .ref hM), (1, .int (nI x)), (2, .int (nI 2)), (3, .int (nI h))]) dX6_figures_53 (by decide) rfl ?_
    refine r_iload C (i := 6) 0 dX6_figures_55 rfl ?_
    refine r_i2l (v := ((nI (sg sp) - nI 48)).toInt64) C dX6_figures_57 rfl ?_
    refine r_lconst (v := lN 0) C dX6_figures_58 (by decide +kernel) ?_
    refine r_ldc2 (v := lN 9) C dX6_figures_59 w_5_140 ?_
    refine r_readS (rest := []) C (c_X6_in (v := ((nI (sg sp) - nI 48)).toInt64) (lw := lN 0) (hg := lN 9)) lk_X6_in w_5_113 [] dX6_figures_62 rfl rfl rfl ⟨by decide, by decide⟩ (Nat.le_of_ble_eq_true rfl) (st' := [.int (bP (lN 0 ≤ ((nI (sg sp) - nI 48)).toInt64 ∧ ((nI (sg sp) - nI 48)).toInt64 ≤ lN 9))]) rfl ?_
    refine r_st (st' := [.int (bP (48 ≤ sg sp ∧ sg sp ≤ 57))]) (by rw [bP_c (in_ch (hT.2 _ (by omega)).2)]) ?_
    refine r_if_eq C (y := 0) (c9 := ¬ (48 ≤ sg sp ∧ sg sp ≤ 57)) 80 dX6_figures_65 (by decide) z_eqB (fun h65_2 => ?_) (fun h65_2 => ?_)
    · exfalso; omega
    · replace h65_2 : 48 ≤ sg sp ∧ sg sp ≤ 57 := Decidable.not_not.mp h65_2
      refine r_lo (lv' := [(6, .int (nI (sg sp - 48))), (5, .int (nI 10)), (4, .int (nI 0)), (0, .ref hM), (1, .int (nI x)), (2, .int (nI 2)), (3, .int (nI h))]) (by rw [v_sub (by omega)]) ?_
      refine r_iload C (i := 4) 2 dX6_figures_68 rfl ?_
      refine r_iload C (i := 6) 0 dX6_figures_70 rfl ?_
      refine r_iload C (i := 5) 1 dX6_figures_72 rfl ?_
      refine r_imul (v := nI ((sg sp - 48) * 10)) C dX6_figures_74 (pk_mul _ _) ?_
      refine r_iadd (v := nI (0 + ((sg sp - 48) * 10))) C dX6_figures_75 (nI_add _ _) ?_
      refine r_iload_n C (i := 3) 6 dX6_figures_76 rfl rfl ?_
      refine r_icmp_le C (c9 := 0 + ((sg sp - 48) * 10) ≤ h) 82 dX6_figures_77 (by decide) (c_leNN (by omega) (by omega)) (fun h77_3 => ?_) (fun h77_3 => ?_)
      · refine r_iload C (i := 4) 2 dX6_figures_82 rfl ?_
        refine r_iload C (i := 6) 0 dX6_figures_84 rfl ?_
        refine r_iload C (i := 5) 1 dX6_figures_86 rfl ?_
        refine r_imul (v := nI ((sg sp - 48) * 10)) C dX6_figures_88 (pk_mul _ _) ?_
        refine r_iadd (v := nI (0 + ((sg sp - 48) * 10))) C dX6_figures_89 (nI_add _ _) ?_
        refine r_istore C (lv' := [(4, .int (nI (0 + ((sg sp - 48) * 10)))), (6, .int (nI (sg sp - 48))), (5, .int (nI 10)), (0, .ref hM), (1, .int (nI x)), (2, .int (nI 2)), (3, .int (nI h))]) dX6_figures_90 (by decide) rfl ?_
        refine r_aload_n C (i := 0) 3 dX6_figures_92 rfl rfl ?_
        refine r_dup C dX6_figures_93 rfl ?_
        refine r_get C 0 12 uX6 rfl rfl (by decide) w_5_73 rfl dX6_figures_94 ?_
        refine r_iconst C dX6_figures_97 ki_1 ?_
        refine r_iadd (v := nI (sp + 1)) C dX6_figures_98 (nI_add _ _) ?_
        refine r_put (ws' := [(hM, .inr (6, [.int (nI rf), .ref x1, .int (nI sz), .ref x3, .ref x4, .ref x5, .int (nI ac), .ref x7, .ref x8, .ref x9, .ref x10, .ref x11, .int (nI (sp + 1)), .int (nI ou)])), (x1, .inl (eI E, 120, .inl tx))]) C 0 12 uX6 rfl tyX6_ok nmX6 rfl (by decide) w_5_73 rfl (tyX6_ok 12 (by decide)) rfl rfl (Nat.le_of_ble_eq_true rfl) rfl dX6_figures_99 ?_
        refine r_iload C (i := 5) 2 dX6_figures_102 rfl ?_
        refine r_bipush C dX6_figures_104 kb_10 ?_
        refine r_idiv (v := nI 1) C dX6_figures_106 (by decide) (by decide) ?_
        refine r_istore C (lv' := [(5, .int (nI 1)), (4, .int (nI (0 + ((sg sp - 48) * 10)))), (6, .int (nI (sg sp - 48))), (0, .ref hM), (1, .int (nI x)), (2, .int (nI 2)), (3, .int (nI h))]) dX6_figures_107 (by decide) rfl ?_
        refine r_goto C 16 dX6_figures_109 (by decide) ?_
        refine r_iload C (i := 5) 0 dX6_figures_16 rfl ?_
        refine r_if_leF C (y := 0) (tgt := 112) dX6_figures_18 (by decide) (fun z => ((by decide) : ¬ (1 = 0)) ((z_leN (by omega)).mp z)) ?_
        refine r_iload_n C (i := 1) 4 dX6_figures_21 rfl rfl ?_
        refine r_iconst C dX6_figures_22 ki_m1 ?_
        refine r_icmp_eqF C (tgt := 112) dX6_figures_23 (by decide) (fun z => ((by omega) : ¬ (x + 1 = 0)) ((c_eqNM (by omega) (by omega)).mp z)) ?_
        refine r_aload_n C (i := 0) 3 dX6_figures_26 rfl rfl ?_
        refine r_get C 0 12 uX6 rfl rfl (by decide) w_5_73 rfl dX6_figures_27 ?_
        refine r_aload_n C (i := 0) 3 dX6_figures_30 rfl rfl ?_
        refine r_get C 0 2 uX6 rfl rfl (by decide) w_5_63 rfl dX6_figures_31 ?_
        refine r_icmp_ge C (c9 := sz ≤ sp + 1) 52 dX6_figures_34 (by decide) (c_leNN (by omega) (by omega)) (fun h34_4 => ?_) (fun h34_4 => ?_)
        · refine r_iconst C dX6_figures_52 ki_m1 ?_
          refine r_istore C (lv' := [(6, .int (mI 0)), (5, .int (nI 1)), (4, .int (nI (0 + ((sg sp - 48) * 10)))), (0, .ref hM), (1, .int (nI x)), (2, .int (nI 2)), (3, .int (nI h))]) dX6_figures_53 (by decide) rfl ?_
          refine r_iload C (i := 6) 0 dX6_figures_55 rfl ?_
          refine r_i2l (v := (mI 0).toInt64) C dX6_figures_57 rfl ?_
          refine r_lconst (v := lN 0) C dX6_figures_58 (by decide +kernel) ?_
          refine r_ldc2 (v := lN 9) C dX6_figures_59 w_5_140 ?_
          refine r_readS (rest := []) C (c_X6_in (v := (mI 0).toInt64) (lw := lN 0) (hg := lN 9)) lk_X6_in w_5_113 [] dX6_figures_62 rfl rfl rfl ⟨by decide, by decide⟩ (Nat.le_of_ble_eq_true rfl) (st' := [.int (bP (lN 0 ≤ (mI 0).toInt64 ∧ (mI 0).toInt64 ≤ lN 9))]) rfl ?_
          refine r_st (st' := [.int (bP False)]) (by rw [bP_c (in_m1)]) ?_
          refine r_if_eqT C (y := 0) 80 dX6_figures_65 (by decide) (z_eqB.mpr not_false) ?_
          refine r_iconst C dX6_figures_80 ki_m1 ?_
          exact RT.1 _ _ _ _ _ dX6_figures_81 rfl rfl (⟨rfl, rfl⟩) rfl
        · refine r_aload_n C (i := 0) 3 dX6_figures_37 rfl rfl ?_
          refine r_get C 0 1 uX6 rfl rfl (by decide) w_5_62 rfl dX6_figures_38 ?_
          refine r_aload_n C (i := 0) 3 dX6_figures_41 rfl rfl ?_
          refine r_get C 0 12 uX6 rfl rfl (by decide) w_5_73 rfl dX6_figures_42 ?_
          refine r_iald (j := sp + 1) (v := nI (sg (sp + 1))) C 1 rfl (by omega) (by decide) ((hT.2 _ (by omega)).1) dX6_figures_45 ?_
          refine r_bipush C dX6_figures_46 kb_48 ?_
          refine r_isub (v := (nI (sg (sp + 1)) - nI 48)) C dX6_figures_48 rfl ?_
          refine r_goto C 53 dX6_figures_49 (by decide) ?_
          refine r_istore C (lv' := [(6, .int (nI (sg (sp + 1)) - nI 48)), (5, .int (nI 1)), (4, .int (nI (0 + ((sg sp - 48) * 10)))), (0, .ref hM), (1, .int (nI x)), (2, .int (nI 2)), (3, .int (nI h))]) dX6_figures_53 (by decide) rfl ?_
          refine r_iload C (i := 6) 0 dX6_figures_55 rfl ?_
          refine r_i2l (v := ((nI (sg (sp + 1)) - nI 48)).toInt64) C dX6_figures_57 rfl ?_
          refine r_lconst (v := lN 0) C dX6_figures_58 (by decide +kernel) ?_
          refine r_ldc2 (v := lN 9) C dX6_figures_59 w_5_140 ?_
          refine r_readS (rest := []) C (c_X6_in (v := ((nI (sg (sp + 1)) - nI 48)).toInt64) (lw := lN 0) (hg := lN 9)) lk_X6_in w_5_113 [] dX6_figures_62 rfl rfl rfl ⟨by decide, by decide⟩ (Nat.le_of_ble_eq_true rfl) (st' := [.int (bP (lN 0 ≤ ((nI (sg (sp + 1)) - nI 48)).toInt64 ∧ ((nI (sg (sp + 1)) - nI 48)).toInt64 ≤ lN 9))]) rfl ?_
          refine r_st (st' := [.int (bP (48 ≤ sg (sp + 1) ∧ sg (sp + 1) ≤ 57))]) (by rw [bP_c (in_ch (hT.2 _ (by omega)).2)]) ?_
          refine r_if_eq C (y := 0) (c9 := ¬ (48 ≤ sg (sp + 1) ∧ sg (sp + 1) ≤ 57)) 80 dX6_figures_65 (by decide) z_eqB (fun h65_5 => ?_) (fun h65_5 => ?_)
          · refine r_iconst C dX6_figures_80 ki_m1 ?_
            exact RT.1 _ _ _ _ _ dX6_figures_81 rfl rfl (⟨rfl, rfl⟩) rfl
          · replace h65_5 : 48 ≤ sg (sp + 1) ∧ sg (sp + 1) ≤ 57 := Decidable.not_not.mp h65_5
            refine r_lo (lv' := [(6, .int (nI (sg (sp + 1) - 48))), (5, .int (nI 1)), (4, .int (nI (0 + ((sg sp - 48) * 10)))), (0, .ref hM), (1, .int (nI x)), (2, .int (nI 2)), (3, .int (nI h))]) (by rw [v_sub (by omega)]) ?_
            refine r_iload C (i := 4) 2 dX6_figures_68 rfl ?_
            refine r_iload C (i := 6) 0 dX6_figures_70 rfl ?_
            refine r_iload C (i := 5) 1 dX6_figures_72 rfl ?_
            refine r_imul (v := nI ((sg (sp + 1) - 48) * 1)) C dX6_figures_74 (pk_mul _ _) ?_
            refine r_iadd (v := nI ((0 + ((sg sp - 48) * 10)) + ((sg (sp + 1) - 48) * 1))) C dX6_figures_75 (nI_add _ _) ?_
            refine r_iload_n C (i := 3) 6 dX6_figures_76 rfl rfl ?_
            refine r_icmp_le C (c9 := (0 + ((sg sp - 48) * 10)) + ((sg (sp + 1) - 48) * 1) ≤ h) 82 dX6_figures_77 (by decide) (c_leNN (by omega) (by omega)) (fun h77_6 => ?_) (fun h77_6 => ?_)
            · exfalso; omega
            · refine r_iconst C dX6_figures_80 ki_m1 ?_
              exact RT.1 _ _ _ _ _ dX6_figures_81 rfl rfl (⟨rfl, rfl⟩) rfl
      · exfalso; omega
set_option maxRecDepth 100000 in
set_option maxHeartbeats 1000000 in
theorem c_X6_figures__n1 {l : Launch} {E : Ev} {hM rf x1 sz x3 x4 x5 ac x7 x8 x9 x10 x11 sp ou : Nat} {h : Nat} : Ct l E yX6_figures cX6_figures 7 (some FieldType.int) 1 25 [.ref hM, .int (mI 0), .int (nI 1), .int (nI h)] [(hM, .inr (6, [.int (nI rf), .ref x1, .int (nI sz), .ref x3, .ref x4, .ref x5, .int (nI ac), .ref x7, .ref x8, .ref x9, .ref x10, .ref x11, .int (nI sp), .int (nI ou)]))] (fun v9 w9 => v9 = some (.int (mI 0)) ∧ w9 = [(hM, .inr (6, [.int (nI rf), .ref x1, .int (nI sz), .ref x3, .ref x4, .ref x5, .int (nI ac), .ref x7, .ref x8, .ref x9, .ref x10, .ref x11, .int (nI sp), .int (nI ou)]))]) := by
  refine ct_of (by decide +kernel) (Nat.le_of_ble_eq_true rfl) (fun ω C RT => ?_)
  show ω [(hM, .inr (6, [.int (nI rf), .ref x1, .int (nI sz), .ref x3, .ref x4, .ref x5, .int (nI ac), .ref x7, .ref x8, .ref x9, .ref x10, .ref x11, .int (nI sp), .int (nI ou)]))] [(0, .ref hM), (1, .int (mI 0)), (2, .int (nI 1)), (3, .int (nI h))] [] 0
  refine r_iconst C dX6_figures_0 ki_0 ?_
  refine r_istore C (lv' := [(4, .int (nI 0)), (0, .ref hM), (1, .int (mI 0)), (2, .int (nI 1)), (3, .int (nI h))]) dX6_figures_1 (by decide) rfl ?_
  refine r_iload_n C (i := 2) 3 dX6_figures_3 rfl rfl ?_
  refine r_iconst C dX6_figures_4 ki_2 ?_
  refine r_icmp_neT C 13 dX6_figures_5 (by decide) ((c_neNN (by omega) (by omega)).mpr (by decide)) ?_
  refine r_iconst C dX6_figures_13 ki_1 ?_
  refine r_istore C (lv' := [(5, .int (nI 1)), (4, .int (nI 0)), (0, .ref hM), (1, .int (mI 0)), (2, .int (nI 1)), (3, .int (nI h))]) dX6_figures_14 (by decide) rfl ?_
  refine r_iload C (i := 5) 0 dX6_figures_16 rfl ?_
  refine r_if_leF C (y := 0) (tgt := 112) dX6_figures_18 (by decide) (fun z => ((by decide) : ¬ (1 = 0)) ((z_leN (by omega)).mp z)) ?_
  refine r_iload_n C (i := 1) 3 dX6_figures_21 rfl rfl ?_
  refine r_iconst C dX6_figures_22 ki_m1 ?_
  refine r_icmp_eqT C 112 dX6_figures_23 (by decide) ((c_eqMM (by omega) (by omega)).mpr (by decide)) ?_
  refine r_iload_n C (i := 1) 3 dX6_figures_112 rfl rfl ?_
  refine r_iconst C dX6_figures_113 ki_m1 ?_
  refine r_icmp_neF C (tgt := 121) dX6_figures_114 (by decide) (fun z => ((by decide) : ¬ (0 ≠ 0)) ((c_neMM (by omega) (by omega)).mp z)) ?_
  refine r_iconst C dX6_figures_117 ki_m1 ?_
  refine r_goto C 123 dX6_figures_118 (by decide) ?_
  exact RT.1 _ _ _ _ _ dX6_figures_123 rfl rfl (⟨rfl, rfl⟩) rfl
set_option maxRecDepth 100000 in
set_option maxHeartbeats 1000000 in
theorem c_X6_figures__n2 {l : Launch} {E : Ev} {hM rf x1 sz x3 x4 x5 ac x7 x8 x9 x10 x11 sp ou : Nat} {h : Nat} : Ct l E yX6_figures cX6_figures 7 (some FieldType.int) 1 25 [.ref hM, .int (mI 0), .int (nI 2), .int (nI h)] [(hM, .inr (6, [.int (nI rf), .ref x1, .int (nI sz), .ref x3, .ref x4, .ref x5, .int (nI ac), .ref x7, .ref x8, .ref x9, .ref x10, .ref x11, .int (nI sp), .int (nI ou)]))] (fun v9 w9 => v9 = some (.int (mI 0)) ∧ w9 = [(hM, .inr (6, [.int (nI rf), .ref x1, .int (nI sz), .ref x3, .ref x4, .ref x5, .int (nI ac), .ref x7, .ref x8, .ref x9, .ref x10, .ref x11, .int (nI sp), .int (nI ou)]))]) := by
  refine ct_of (by decide +kernel) (Nat.le_of_ble_eq_true rfl) (fun ω C RT => ?_)
  show ω [(hM, .inr (6, [.int (nI rf), .ref x1, .int (nI sz), .ref x3, .ref x4, .ref x5, .int (nI ac), .ref x7, .ref x8, .ref x9, .ref x10, .ref x11, .int (nI sp), .int (nI ou)]))] [(0, .ref hM), (1, .int (mI 0)), (2, .int (nI 2)), (3, .int (nI h))] [] 0
  refine r_iconst C dX6_figures_0 ki_0 ?_
  refine r_istore C (lv' := [(4, .int (nI 0)), (0, .ref hM), (1, .int (mI 0)), (2, .int (nI 2)), (3, .int (nI h))]) dX6_figures_1 (by decide) rfl ?_
  refine r_iload_n C (i := 2) 3 dX6_figures_3 rfl rfl ?_
  refine r_iconst C dX6_figures_4 ki_2 ?_
  refine r_icmp_neF C (tgt := 13) dX6_figures_5 (by decide) (fun z => ((by decide) : ¬ (2 ≠ 2)) ((c_neNN (by omega) (by omega)).mp z)) ?_
  refine r_bipush C dX6_figures_8 kb_10 ?_
  refine r_goto C 14 dX6_figures_10 (by decide) ?_
  refine r_istore C (lv' := [(5, .int (nI 10)), (4, .int (nI 0)), (0, .ref hM), (1, .int (mI 0)), (2, .int (nI 2)), (3, .int (nI h))]) dX6_figures_14 (by decide) rfl ?_
  refine r_iload C (i := 5) 0 dX6_figures_16 rfl ?_
  refine r_if_leF C (y := 0) (tgt := 112) dX6_figures_18 (by decide) (fun z => ((by decide) : ¬ (10 = 0)) ((z_leN (by omega)).mp z)) ?_
  refine r_iload_n C (i := 1) 3 dX6_figures_21 rfl rfl ?_
  refine r_iconst C dX6_figures_22 ki_m1 ?_
  refine r_icmp_eqT C 112 dX6_figures_23 (by decide) ((c_eqMM (by omega) (by omega)).mpr (by decide)) ?_
  refine r_iload_n C (i := 1) 3 dX6_figures_112 rfl rfl ?_
  refine r_iconst C dX6_figures_113 ki_m1 ?_
  refine r_icmp_neF C (tgt := 121) dX6_figures_114 (by decide) (fun z => ((by decide) : ¬ (0 ≠ 0)) ((c_neMM (by omega) (by omega)).mp z)) ?_
  refine r_iconst C dX6_figures_117 ki_m1 ?_
  refine r_goto C 123 dX6_figures_118 (by decide) ?_
  exact RT.1 _ _ _ _ _ dX6_figures_123 rfl rfl (⟨rfl, rfl⟩) rfl
set_option maxRecDepth 100000 in
set_option maxHeartbeats 1000000 in
theorem c_X6_done__0 {l : Launch} {E : Ev} {hM rf x1 sz x3 x4 x5 ac x7 x8 x9 x10 x11 sp ou : Nat} : Ct l E yX6_done cX6_done 2 (some FieldType.boolean) 0 0 [.ref hM, .int (nI 0)] [(hM, .inr (6, [.int (nI rf), .ref x1, .int (nI sz), .ref x3, .ref x4, .ref x5, .int (nI ac), .ref x7, .ref x8, .ref x9, .ref x10, .ref x11, .int (nI sp), .int (nI ou)]))] (fun v9 w9 => v9 = some (.int (nI 1)) ∧ w9 = [(hM, .inr (6, [.int (nI rf), .ref x1, .int (nI sz), .ref x3, .ref x4, .ref x5, .int (nI ac), .ref x7, .ref x8, .ref x9, .ref x10, .ref x11, .int (nI sp), .int (nI (ou + 1))]))]) := by
  refine ct_of (by decide +kernel) (Nat.le_of_ble_eq_true rfl) (fun ω C RT => ?_)
  show ω [(hM, .inr (6, [.int (nI rf), .ref x1, .int (nI sz), .ref x3, .ref x4, .ref x5, .int (nI ac), .ref x7, .ref x8, .ref x9, .ref x10, .ref x11, .int (nI sp), .int (nI ou)]))] [(0, .ref hM), (1, .int (nI 0))] [] 0
  refine r_aload_n C (i := 0) 0 dX6_done_0 rfl rfl ?_
  refine r_dup C dX6_done_1 rfl ?_
  refine r_get C 0 13 uX6 rfl rfl (by decide) w_5_74 rfl dX6_done_2 ?_
  refine r_iload_n C (i := 1) 1 dX6_done_5 rfl rfl ?_
  refine r_if_eqT C (y := 0) 13 dX6_done_6 (by decide) ((z_eqN (by omega)).mpr (by decide)) ?_
  refine r_iconst C dX6_done_13 ki_1 ?_
  refine r_iadd (v := nI (ou + 1)) C dX6_done_14 (nI_add _ _) ?_
  refine r_put (ws' := [(hM, .inr (6, [.int (nI rf), .ref x1, .int (nI sz), .ref x3, .ref x4, .ref x5, .int (nI ac), .ref x7, .ref x8, .ref x9, .ref x10, .ref x11, .int (nI sp), .int (nI (ou + 1))]))]) C 0 13 uX6 rfl tyX6_ok nmX6 rfl (by decide) w_5_74 rfl (tyX6_ok 13 (by decide)) rfl rfl (Nat.le_of_ble_eq_true rfl) rfl dX6_done_15 ?_
  refine r_iconst C dX6_done_18 ki_1 ?_
  exact RT.1 _ _ _ _ _ dX6_done_19 rfl nar_1 (⟨rfl, rfl⟩) rfl
set_option maxRecDepth 100000 in
set_option maxHeartbeats 1000000 in
theorem c_X6_done__1 {l : Launch} {E : Ev} {hM rf x1 sz x3 x4 x5 ac x7 x8 x9 x10 x11 sp ou : Nat} : Ct l E yX6_done cX6_done 2 (some FieldType.boolean) 0 0 [.ref hM, .int (nI 1)] [(hM, .inr (6, [.int (nI rf), .ref x1, .int (nI sz), .ref x3, .ref x4, .ref x5, .int (nI ac), .ref x7, .ref x8, .ref x9, .ref x10, .ref x11, .int (nI sp), .int (nI ou)]))] (fun v9 w9 => v9 = some (.int (nI 1)) ∧ w9 = [(hM, .inr (6, [.int (nI rf), .ref x1, .int (nI sz), .ref x3, .ref x4, .ref x5, .int (nI ac), .ref x7, .ref x8, .ref x9, .ref x10, .ref x11, .int (nI sp), .int (nI (ou + 0))]))]) := by
  refine ct_of (by decide +kernel) (Nat.le_of_ble_eq_true rfl) (fun ω C RT => ?_)
  show ω [(hM, .inr (6, [.int (nI rf), .ref x1, .int (nI sz), .ref x3, .ref x4, .ref x5, .int (nI ac), .ref x7, .ref x8, .ref x9, .ref x10, .ref x11, .int (nI sp), .int (nI ou)]))] [(0, .ref hM), (1, .int (nI 1))] [] 0
  refine r_aload_n C (i := 0) 0 dX6_done_0 rfl rfl ?_
  refine r_dup C dX6_done_1 rfl ?_
  refine r_get C 0 13 uX6 rfl rfl (by decide) w_5_74 rfl dX6_done_2 ?_
  refine r_iload_n C (i := 1) 1 dX6_done_5 rfl rfl ?_
  refine r_if_eqF C (y := 0) (tgt := 13) dX6_done_6 (by decide) (fun z => ((by decide) : ¬ (1 = 0)) ((z_eqN (by omega)).mp z)) ?_
  refine r_iconst C dX6_done_9 ki_0 ?_
  refine r_goto C 14 dX6_done_10 (by decide) ?_
  refine r_iadd (v := nI (ou + 0)) C dX6_done_14 (nI_add _ _) ?_
  refine r_put (ws' := [(hM, .inr (6, [.int (nI rf), .ref x1, .int (nI sz), .ref x3, .ref x4, .ref x5, .int (nI ac), .ref x7, .ref x8, .ref x9, .ref x10, .ref x11, .int (nI sp), .int (nI (ou + 0))]))]) C 0 13 uX6 rfl tyX6_ok nmX6 rfl (by decide) w_5_74 rfl (tyX6_ok 13 (by decide)) rfl rfl (Nat.le_of_ble_eq_true rfl) rfl dX6_done_15 ?_
  refine r_iconst C dX6_done_18 ki_1 ?_
  exact RT.1 _ _ _ _ _ dX6_done_19 rfl nar_1 (⟨rfl, rfl⟩) rfl
