theorem look_out {d k : Int} : ∀ (l : List (Int × Int)), (∀ p ∈ l, p.1 ≠ k) → Op.lookupswitch.offset l d k = d
  | [], _ => rfl
  | (b, o) :: r, h => by rw [Op.lookupswitch.offset_cons, if_neg (h (b, o) List.mem_cons_self)]; exact look_out r (fun p hp => h p (List.mem_cons_of_mem _ hp))
section
variable {σ : Sg} {sg : Nat → Nat} {sz i : Nat}
theorem opL_a (hc : sg i = 97) : opC σ sg i = tHire σ (dD sg i 0) := by rw [opC, if_pos hc]
theorem loL_a (hc : sg i = 97) : loC σ sg i = if dD sg i 0 ≤ 9 ∧ sA σ < 10 then 0 else 1 := by rw [loC, if_pos hc]
theorem nDL_a (hc : sg i = 97) : nD (sg i) = 1 := by rw [hc]; rfl
theorem gdL_a0 (hc : sg i = 97) : gd sg sz i 0 ↔ i + 1 < sz ∧ 48 ≤ sg (i + 1) ∧ sg (i + 1) ≤ 57 := by
  show (i + 1 + 0 < sz ∧ 48 ≤ sg (i + 1 + 0) ∧ sg (i + 1 + 0) ≤ hiD (sg i) 0 (sg (i + 0))) ↔ _
  rw [hc]; exact Iff.rfl
theorem opL_p (hc : sg i = 112) : opC σ sg i = tPart σ := by rw [opC, if_neg (by omega), if_pos hc]
theorem loL_p (hc : sg i = 112) : loC σ sg i = if sP σ < 6 then 0 else 1 := by rw [loC, if_neg (by omega), if_pos hc]
theorem nDL_p (hc : sg i = 112) : nD (sg i) = 0 := by rw [hc]; rfl
theorem opL_c (hc : sg i = 99) : opC σ sg i = tCast σ (dD sg i 0) (dD sg i 1 + 1) (10 * dD sg i 2 + dD sg i 3) := by rw [opC, if_neg (by omega), if_neg (by omega), if_pos hc]
theorem loL_c (hc : sg i = 99) : loC σ sg i = if dD sg i 0 < sP σ ∧ 10 * dD sg i 2 + dD sg i 3 < 20 ∧ dD sg i 1 + 1 ≤ sA σ then 0 else 1 := by rw [loC, if_neg (by omega), if_neg (by omega), if_pos hc]
theorem nDL_c (hc : sg i = 99) : nD (sg i) = 4 := by rw [hc]; rfl
theorem gdL_c0 (hc : sg i = 99) : gd sg sz i 0 ↔ i + 1 < sz ∧ 48 ≤ sg (i + 1) ∧ sg (i + 1) ≤ 53 := by
  show (i + 1 + 0 < sz ∧ 48 ≤ sg (i + 1 + 0) ∧ sg (i + 1 + 0) ≤ hiD (sg i) 0 (sg (i + 0))) ↔ _
  rw [hc]; exact Iff.rfl
theorem gdL_c1 (hc : sg i = 99) : gd sg sz i 1 ↔ i + 2 < sz ∧ 48 ≤ sg (i + 2) ∧ sg (i + 2) ≤ 57 := by
  show (i + 1 + 1 < sz ∧ 48 ≤ sg (i + 1 + 1) ∧ sg (i + 1 + 1) ≤ hiD (sg i) 1 (sg (i + 1))) ↔ _
  rw [hc]; exact Iff.rfl
theorem gdL_c2 (hc : sg i = 99) : gd sg sz i 2 ↔ i + 3 < sz ∧ 48 ≤ sg (i + 3) ∧ sg (i + 3) ≤ 49 := by
  show (i + 1 + 2 < sz ∧ 48 ≤ sg (i + 1 + 2) ∧ sg (i + 1 + 2) ≤ hiD (sg i) 2 (sg (i + 2))) ↔ _
  rw [hc]; exact Iff.rfl
theorem gdL_c3 (hc : sg i = 99) : gd sg sz i 3 ↔ i + 4 < sz ∧ 48 ≤ sg (i + 4) ∧ sg (i + 4) ≤ 57 := by
  show (i + 1 + 3 < sz ∧ 48 ≤ sg (i + 1 + 3) ∧ sg (i + 1 + 3) ≤ hiD (sg i) 3 (sg (i + 3))) ↔ _
  rw [hc]; exact Iff.rfl
theorem opL_u (hc : sg i = 117) : opC σ sg i = tStudy σ (dD sg i 0) (dD sg i 1) := by rw [opC, if_neg (by omega), if_neg (by omega), if_neg (by omega), if_pos hc]
theorem loL_u (hc : sg i = 117) : loC σ sg i = if dD sg i 0 < sP σ ∧ dD sg i 1 < sA σ ∧ sC σ (dD sg i 0) < 4 ∧ rk σ (dD sg i 0) (dD sg i 1) = 0 then 0 else 1 := by rw [loC, if_neg (by omega), if_neg (by omega), if_neg (by omega), if_pos hc]
theorem nDL_u (hc : sg i = 117) : nD (sg i) = 2 := by rw [hc]; rfl
theorem gdL_u0 (hc : sg i = 117) : gd sg sz i 0 ↔ i + 1 < sz ∧ 48 ≤ sg (i + 1) ∧ sg (i + 1) ≤ 53 := by
  show (i + 1 + 0 < sz ∧ 48 ≤ sg (i + 1 + 0) ∧ sg (i + 1 + 0) ≤ hiD (sg i) 0 (sg (i + 0))) ↔ _
  rw [hc]; exact Iff.rfl
theorem gdL_u1 (hc : sg i = 117) : gd sg sz i 1 ↔ i + 2 < sz ∧ 48 ≤ sg (i + 2) ∧ sg (i + 2) ≤ 57 := by
  show (i + 1 + 1 < sz ∧ 48 ≤ sg (i + 1 + 1) ∧ sg (i + 1 + 1) ≤ hiD (sg i) 1 (sg (i + 1))) ↔ _
  rw [hc]; exact Iff.rfl
theorem opL_i (hc : sg i = 105) : opC σ sg i = tIll σ (dD sg i 0) (10 * dD sg i 1 + dD sg i 2) 1 := by rw [opC, if_neg (by omega), if_neg (by omega), if_neg (by omega), if_neg (by omega), if_pos hc]
theorem loL_i (hc : sg i = 105) : loC σ sg i = if dD sg i 0 < sA σ ∧ 10 * dD sg i 1 + dD sg i 2 < 20 then 0 else 1 := by rw [loC, if_neg (by omega), if_neg (by omega), if_neg (by omega), if_neg (by omega), if_pos hc]
theorem nDL_i (hc : sg i = 105) : nD (sg i) = 3 := by rw [hc]; rfl
theorem gdL_i0 (hc : sg i = 105) : gd sg sz i 0 ↔ i + 1 < sz ∧ 48 ≤ sg (i + 1) ∧ sg (i + 1) ≤ 57 := by
  show (i + 1 + 0 < sz ∧ 48 ≤ sg (i + 1 + 0) ∧ sg (i + 1 + 0) ≤ hiD (sg i) 0 (sg (i + 0))) ↔ _
  rw [hc]; exact Iff.rfl
theorem gdL_i1 (hc : sg i = 105) : gd sg sz i 1 ↔ i + 2 < sz ∧ 48 ≤ sg (i + 2) ∧ sg (i + 2) ≤ 49 := by
  show (i + 1 + 1 < sz ∧ 48 ≤ sg (i + 1 + 1) ∧ sg (i + 1 + 1) ≤ hiD (sg i) 1 (sg (i + 1))) ↔ _
  rw [hc]; exact Iff.rfl
theorem gdL_i2 (hc : sg i = 105) : gd sg sz i 2 ↔ i + 3 < sz ∧ 48 ≤ sg (i + 3) ∧ sg (i + 3) ≤ 57 := by
  show (i + 1 + 2 < sz ∧ 48 ≤ sg (i + 1 + 2) ∧ sg (i + 1 + 2) ≤ hiD (sg i) 2 (sg (i + 2))) ↔ _
  rw [hc]; exact Iff.rfl
theorem opL_s (hc : sg i = 115) : opC σ sg i = tSlip σ (10 * dD sg i 0 + dD sg i 1) (dD sg i 2) (dD sg i 3) (10 * dD sg i 4 + dD sg i 5) := by rw [opC, if_neg (by omega), if_neg (by omega), if_neg (by omega), if_neg (by omega), if_neg (by omega)]
theorem loL_s (hc : sg i = 115) : loC σ sg i = if 10 * dD sg i 0 + dD sg i 1 < 20 ∧ dD sg i 2 < sP σ ∧ dD sg i 3 < sA σ ∧ 10 * dD sg i 4 + dD sg i 5 < 24 ∧ sS σ < 20 then 0 else 1 := by rw [loC, if_neg (by omega), if_neg (by omega), if_neg (by omega), if_neg (by omega), if_neg (by omega)]
theorem nDL_s (hc : sg i = 115) : nD (sg i) = 6 := by rw [hc]; rfl
theorem gdL_s0 (hc : sg i = 115) : gd sg sz i 0 ↔ i + 1 < sz ∧ 48 ≤ sg (i + 1) ∧ sg (i + 1) ≤ 49 := by
  show (i + 1 + 0 < sz ∧ 48 ≤ sg (i + 1 + 0) ∧ sg (i + 1 + 0) ≤ hiD (sg i) 0 (sg (i + 0))) ↔ _
  rw [hc]; exact Iff.rfl
theorem gdL_s1 (hc : sg i = 115) : gd sg sz i 1 ↔ i + 2 < sz ∧ 48 ≤ sg (i + 2) ∧ sg (i + 2) ≤ 57 := by
  show (i + 1 + 1 < sz ∧ 48 ≤ sg (i + 1 + 1) ∧ sg (i + 1 + 1) ≤ hiD (sg i) 1 (sg (i + 1))) ↔ _
  rw [hc]; exact Iff.rfl
theorem gdL_s2 (hc : sg i = 115) : gd sg sz i 2 ↔ i + 3 < sz ∧ 48 ≤ sg (i + 3) ∧ sg (i + 3) ≤ 53 := by
  show (i + 1 + 2 < sz ∧ 48 ≤ sg (i + 1 + 2) ∧ sg (i + 1 + 2) ≤ hiD (sg i) 2 (sg (i + 2))) ↔ _
  rw [hc]; exact Iff.rfl
theorem gdL_s3 (hc : sg i = 115) : gd sg sz i 3 ↔ i + 4 < sz ∧ 48 ≤ sg (i + 4) ∧ sg (i + 4) ≤ 57 := by
  show (i + 1 + 3 < sz ∧ 48 ≤ sg (i + 1 + 3) ∧ sg (i + 1 + 3) ≤ hiD (sg i) 3 (sg (i + 3))) ↔ _
  rw [hc]; exact Iff.rfl
theorem gdL_s4 (hc : sg i = 115) : gd sg sz i 4 ↔ i + 5 < sz ∧ 48 ≤ sg (i + 5) ∧ sg (i + 5) ≤ 50 := by
  show (i + 1 + 4 < sz ∧ 48 ≤ sg (i + 1 + 4) ∧ sg (i + 1 + 4) ≤ hiD (sg i) 4 (sg (i + 4))) ↔ _
  rw [hc]; exact Iff.rfl
theorem gdL_s5 (hc : sg i = 115) : gd sg sz i 5 ↔ i + 6 < sz ∧ 48 ≤ sg (i + 6) ∧ sg (i + 6) ≤ (if sg (i + 5) = 50 then 51 else 57) := by
  show (i + 1 + 5 < sz ∧ 48 ≤ sg (i + 1 + 5) ∧ sg (i + 1 + 5) ≤ hiD (sg i) 5 (sg (i + 5))) ↔ _
  rw [hc]; exact Iff.rfl
theorem cntI_ge {σ : Sg} (a : Nat) {n : Nat} : ∀ {N : Nat}, n < N → sI σ a n ≤ cntI σ a N
  | 0, h => absurd h (Nat.not_lt_zero _)
  | N + 1, h => by
    rw [cntI]
    rcases Nat.lt_or_ge n N with q | q
    · have := cntI_ge (σ := σ) a q; omega
    · rw [show n = N from by omega]; omega
end
set_option maxRecDepth 100000 in
set_option maxHeartbeats 1000000 in
theorem c_X6_readSlip__k {l : Launch} {E : Ev} {hM rf x1 sz x3 x4 x5 ac x7 x8 x9 x10 x11 ou : Nat} {r : Nat} {g : Nat → Int32} {σ : Sg} (hR : RepM σ g) (hW : Wf σ) {tx : Nat → Int32} {sg : Nat → Nat} (hT : TxR sg sz tx) {i : Nat} (hi : i < sz) (hc : sg i = 115) (hg : ∀ j, j < 6 → gd sg sz i j) : Ct l E yX6_readSlip cX6_readSlip 6 (some FieldType.boolean) 3 69 [.ref hM, .ref r] [(hM, .inr (6, [.int (nI rf), .ref x1, .int (nI sz), .ref x3, .ref x4, .ref x5, .int (nI ac), .ref x7, .ref x8, .ref x9, .ref x10, .ref x11, .int (nI (i + 1)), .int (nI ou)])), (x1, .inl (eI E, 120, .inl tx)), (r, .inl (eI E, 255, .inl g))] (fun v9 w9 => ∃ g2 : Nat → Int32, v9 = some (.int (nI 1)) ∧ w9 = [(hM, .inr (6, [.int (nI rf), .ref x1, .int (nI sz), .ref x3, .ref x4, .ref x5, .int (nI ac), .ref x7, .ref x8, .ref x9, .ref x10, .ref x11, .int (nI (i + 7)), .int (nI (ou + loC σ sg i))])), (x1, .inl (eI E, 120, .inl tx)), (r, .inl (eI E, 255, .inl g2))] ∧ RepM (opC σ sg i) g2) := by
  have hwP := hW.P
  have hwA := hW.A
  have hwS := hW.S
  have hTz := hT.1
  have g0 := (gdL_s0 hc).mp (hg 0 (by decide))
  have e0 : dD sg i 0 = sg (i + 1) - 48 := rfl
  have g1 := (gdL_s1 hc).mp (hg 1 (by decide))
  have e1 : dD sg i 1 = sg (i + 2) - 48 := rfl
  have g2 := (gdL_s2 hc).mp (hg 2 (by decide))
  have e2 : dD sg i 2 = sg (i + 3) - 48 := rfl
  have g3 := (gdL_s3 hc).mp (hg 3 (by decide))
  have e3 : dD sg i 3 = sg (i + 4) - 48 := rfl
  have g4 := (gdL_s4 hc).mp (hg 4 (by decide))
  have e4 : dD sg i 4 = sg (i + 5) - 48 := rfl
  have g5 := (gdL_s5 hc).mp (hg 5 (by decide))
  have e5 : dD sg i 5 = sg (i + 6) - 48 := rfl
  have h59 : sg (i + 6) ≤ 57 ∧ 10 * (sg (i + 5) - 48) + (sg (i + 6) - 48) ≤ 23 := by split at g5 <;> omega
  refine ct_of (by decide +kernel) (Nat.le_of_ble_eq_true rfl) (fun ω C RT => ?_)
  show ω [(hM, .inr (6, [.int (nI rf), .ref x1, .int (nI sz), .ref x3, .ref x4, .ref x5, .int (nI ac), .ref x7, .ref x8, .ref x9, .ref x10, .ref x11, .int (nI (i + 1)), .int (nI ou)])), (x1, .inl (eI E, 120, .inl tx)), (r, .inl (eI E, 255, .inl g))] [(0, .ref hM), (1, .ref r)] [] 0
  refine r_aload_n C (i := 0) 0 dX6_readSlip_0 rfl rfl ?_
  refine r_iconst C dX6_readSlip_1 ki_0 ?_
  refine r_iconst C dX6_readSlip_2 ki_2 ?_
  refine r_bipush C dX6_readSlip_3 kb_19 ?_
  refine r_callV (rest := []) C (c_X6_figures__2 (hM := hM) (rf := rf) (x1 := x1) (sz := sz) (x3 := x3) (x4 := x4) (x5 := x5) (ac := ac) (x7 := x7) (x8 := x8) (x9 := x9) (x10 := x10) (x11 := x11) (sp := i + 1) (ou := ou) (tx := tx) (sg := sg) (x := 0) (h := 19) (hT := hT) (hsp := (by omega)) (hx := (by omega)) (hh := (by omega)) (h1 := (show i + 1 < sz ∧ 48 ≤ sg (i + 1) ∧ sg (i + 1) ≤ 57 by omega)) (h2 := (show i + 2 < sz ∧ 48 ≤ sg (i + 2) ∧ sg (i + 2) ≤ 57 by omega)) (h3 := (show 10 * (sg (i + 1) - 48) + (sg (i + 2) - 48) ≤ 19 by omega))) lk_X6_figures w_5_136 [0, 1] rfl dX6_readSlip_5 rfl rfl rfl rfl ⟨by decide, by decide⟩ (Nat.le_of_ble_eq_true rfl) ?_
  rintro _ _ ⟨rfl, rfl⟩
  show ω [(hM, .inr (6, [.int (nI rf), .ref x1, .int (nI sz), .ref x3, .ref x4, .ref x5, .int (nI ac), .ref x7, .ref x8, .ref x9, .ref x10, .ref x11, .int (nI (i + 3)), .int (nI ou)])), (x1, .inl (eI E, 120, .inl tx)), (r, .inl (eI E, 255, .inl g))] [(0, .ref hM), (1, .ref r)] [.int (nI (10 * (sg (i + 1) - 48) + (sg (i + 2) - 48)))] 8
  refine r_istore_n C (lv' := [(2, .int (nI (10 * (sg (i + 1) - 48) + (sg (i + 2) - 48)))), (0, .ref hM), (1, .ref r)]) dX6_readSlip_8 rfl (by decide) rfl ?_
  refine r_aload_n C (i := 0) 1 dX6_readSlip_9 rfl rfl ?_
  refine r_iload_n C (i := 2) 0 dX6_readSlip_10 rfl rfl ?_
  refine r_iconst C dX6_readSlip_11 ki_1 ?_
  refine r_iconst C dX6_readSlip_12 ki_5 ?_
  refine r_callV (rest := []) C (c_X6_figures__1 (hM := hM) (rf := rf) (x1 := x1) (sz := sz) (x3 := x3) (x4 := x4) (x5 := x5) (ac := ac) (x7 := x7) (x8 := x8) (x9 := x9) (x10 := x10) (x11 := x11) (sp := i + 3) (ou := ou) (tx := tx) (sg := sg) (x := 10 * (sg (i + 1) - 48) + (sg (i + 2) - 48)) (h := 5) (hT := hT) (hsp := (by omega)) (hx := (by omega)) (hh := (by omega)) (h1 := (show i + 3 < sz ∧ 48 ≤ sg (i + 3) ∧ sg (i + 3) ≤ 57 by omega)) (h2 := (show sg (i + 3) ≤ 48 + 5 by omega))) lk_X6_figures w_5_136 [0, 1] rfl dX6_readSlip_13 rfl rfl rfl rfl ⟨by decide, by decide⟩ (Nat.le_of_ble_eq_true rfl) ?_
  rintro _ _ ⟨rfl, rfl⟩
  show ω [(hM, .inr (6, [.int (nI rf), .ref x1, .int (nI sz), .ref x3, .ref x4, .ref x5, .int (nI ac), .ref x7, .ref x8, .ref x9, .ref x10, .ref x11, .int (nI (i + 4)), .int (nI ou)])), (x1, .inl (eI E, 120, .inl tx)), (r, .inl (eI E, 255, .inl g))] [(2, .int (nI (10 * (sg (i + 1) - 48) + (sg (i + 2) - 48)))), (0, .ref hM), (1, .ref r)] [.int (nI (sg (i + 3) - 48))] 16
  refine r_istore_n C (lv' := [(3, .int (nI (sg (i + 3) - 48))), (2, .int (nI (10 * (sg (i + 1) - 48) + (sg (i + 2) - 48)))), (0, .ref hM), (1, .ref r)]) dX6_readSlip_16 rfl (by decide) rfl ?_
  refine r_aload_n C (i := 0) 2 dX6_readSlip_17 rfl rfl ?_
  refine r_iload_n C (i := 3) 0 dX6_readSlip_18 rfl rfl ?_
  refine r_iconst C dX6_readSlip_19 ki_1 ?_
  refine r_bipush C dX6_readSlip_20 kb_9 ?_
  refine r_callV (rest := []) C (c_X6_figures__1 (hM := hM) (rf := rf) (x1 := x1) (sz := sz) (x3 := x3) (x4 := x4) (x5 := x5) (ac := ac) (x7 := x7) (x8 := x8) (x9 := x9) (x10 := x10) (x11 := x11) (sp := i + 4) (ou := ou) (tx := tx) (sg := sg) (x := sg (i + 3) - 48) (h := 9) (hT := hT) (hsp := (by omega)) (hx := (by omega)) (hh := (by omega)) (h1 := (show i + 4 < sz ∧ 48 ≤ sg (i + 4) ∧ sg (i + 4) ≤ 57 by omega)) (h2 := (show sg (i + 4) ≤ 48 + 9 by omega))) lk_X6_figures w_5_136 [0, 1] rfl dX6_readSlip_22 rfl rfl rfl rfl ⟨by decide, by decide⟩ (Nat.le_of_ble_eq_true rfl) ?_
  rintro _ _ ⟨rfl, rfl⟩
  show ω [(hM, .inr (6, [.int (nI rf), .ref x1, .int (nI sz), .ref x3, .ref x4, .ref x5, .int (nI ac), .ref x7, .ref x8, .ref x9, .ref x10, .ref x11, .int (nI (i + 5)), .int (nI ou)])), (x1, .inl (eI E, 120, .inl tx)), (r, .inl (eI E, 255, .inl g))] [(3, .int (nI (sg (i + 3) - 48))), (2, .int (nI (10 * (sg (i + 1) - 48) + (sg (i + 2) - 48)))), (0, .ref hM), (1, .ref r)] [.int (nI (sg (i + 4) - 48))] 25
  refine r_istore C (lv' := [(4, .int (nI (sg (i + 4) - 48))), (3, .int (nI (sg (i + 3) - 48))), (2, .int (nI (10 * (sg (i + 1) - 48) + (sg (i + 2) - 48)))), (0, .ref hM), (1, .ref r)]) dX6_readSlip_25 (by decide) rfl ?_
  refine r_aload_n C (i := 0) 3 dX6_readSlip_27 rfl rfl ?_
  refine r_iload C (i := 4) 0 dX6_readSlip_28 rfl ?_
  refine r_iconst C dX6_readSlip_30 ki_2 ?_
  refine r_bipush C dX6_readSlip_31 kb_23 ?_
  refine r_callV (rest := []) C (c_X6_figures__2 (hM := hM) (rf := rf) (x1 := x1) (sz := sz) (x3 := x3) (x4 := x4) (x5 := x5) (ac := ac) (x7 := x7) (x8 := x8) (x9 := x9) (x10 := x10) (x11 := x11) (sp := i + 5) (ou := ou) (tx := tx) (sg := sg) (x := sg (i + 4) - 48) (h := 23) (hT := hT) (hsp := (by omega)) (hx := (by omega)) (hh := (by omega)) (h1 := (show i + 5 < sz ∧ 48 ≤ sg (i + 5) ∧ sg (i + 5) ≤ 57 by omega)) (h2 := (show i + 6 < sz ∧ 48 ≤ sg (i + 6) ∧ sg (i + 6) ≤ 57 by omega)) (h3 := (show 10 * (sg (i + 5) - 48) + (sg (i + 6) - 48) ≤ 23 by omega))) lk_X6_figures w_5_136 [0, 1] rfl dX6_readSlip_33 rfl rfl rfl rfl ⟨by decide, by decide⟩ (Nat.le_of_ble_eq_true rfl) ?_
  rintro _ _ ⟨rfl, rfl⟩
  show ω [(hM, .inr (6, [.int (nI rf), .ref x1, .int (nI sz), .ref x3, .ref x4, .ref x5, .int (nI ac), .ref x7, .ref x8, .ref x9, .ref x10, .ref x11, .int (nI (i + 7)), .int (nI ou)])), (x1, .inl (eI E, 120, .inl tx)), (r, .inl (eI E, 255, .inl g))] [(4, .int (nI (sg (i + 4) - 48))), (3, .int (nI (sg (i + 3) - 48))), (2, .int (nI (10 * (sg (i + 1) - 48) + (sg (i + 2) - 48)))), (0, .ref hM), (1, .ref r)] [.int (nI (10 * (sg (i + 5) - 48) + (sg (i + 6) - 48)))] 36
  refine r_istore C (lv' := [(5, .int (nI (10 * (sg (i + 5) - 48) + (sg (i + 6) - 48)))), (4, .int (nI (sg (i + 4) - 48))), (3, .int (nI (sg (i + 3) - 48))), (2, .int (nI (10 * (sg (i + 1) - 48) + (sg (i + 2) - 48)))), (0, .ref hM), (1, .ref r)]) dX6_readSlip_36 (by decide) rfl ?_
  refine r_iload C (i := 5) 0 dX6_readSlip_38 rfl ?_
  refine r_iconst C dX6_readSlip_40 ki_m1 ?_
  refine r_icmp_eqF C (tgt := 84) dX6_readSlip_41 (by decide) (fun z => ((by omega) : ¬ (10 * (sg (i + 5) - 48) + (sg (i + 6) - 48) + 1 = 0)) ((c_eqNM (by omega) (by omega)).mp z)) ?_
  refine r_aload_n C (i := 0) 4 dX6_readSlip_44 rfl rfl ?_
  refine r_aload_n C (i := 1) 5 dX6_readSlip_45 rfl rfl ?_
  refine r_iload_n C (i := 2) 3 dX6_readSlip_46 rfl rfl ?_
  refine r_iload_n C (i := 3) 2 dX6_readSlip_47 rfl rfl ?_
  refine r_iload C (i := 4) 1 dX6_readSlip_48 rfl ?_
  refine r_readS (rest := [.ref hM]) C (c_X6_canSlip (r := r) (g := g) (σ := σ) (n := 10 * (sg (i + 1) - 48) + (sg (i + 2) - 48)) (p := sg (i + 3) - 48) (a := sg (i + 4) - 48) (hR := hR) (hW := hW) (hn := (by omega)) (hp := (by omega)) (ha := (by omega))) lk_X6_canSlip w_5_182 [2] dX6_readSlip_50 rfl rfl rfl ⟨by decide, by decide⟩ (Nat.le_of_ble_eq_true rfl) (st' := [.int (bP ((10 * (sg (i + 1) - 48) + (sg (i + 2) - 48)) < 20 ∧ (sg (i + 3) - 48) < sP σ ∧ (sg (i + 4) - 48) < sA σ ∧ sS σ < 20)), .ref hM]) rfl ?_
  refine r_if_eq C (y := 0) (c9 := ¬ ((10 * (sg (i + 1) - 48) + (sg (i + 2) - 48)) < 20 ∧ (sg (i + 3) - 48) < sP σ ∧ (sg (i + 4) - 48) < sA σ ∧ sS σ < 20)) 73 dX6_readSlip_53 (by decide) z_eqB (fun h53_1 => ?_) (fun h53_1 => ?_)
  · refine r_iconst C dX6_readSlip_73 ki_0 ?_
    refine r_callV (rest := []) C (c_X6_done__0 (hM := hM) (rf := rf) (x1 := x1) (sz := sz) (x3 := x3) (x4 := x4) (x5 := x5) (ac := ac) (x7 := x7) (x8 := x8) (x9 := x9) (x10 := x10) (x11 := x11) (sp := i + 7) (ou := ou) ) lk_X6_done w_5_144 [0] rfl dX6_readSlip_74 rfl rfl rfl rfl ⟨by decide, by decide⟩ (Nat.le_of_ble_eq_true rfl) ?_
    rintro _ _ ⟨rfl, rfl⟩
    show ω [(hM, .inr (6, [.int (nI rf), .ref x1, .int (nI sz), .ref x3, .ref x4, .ref x5, .int (nI ac), .ref x7, .ref x8, .ref x9, .ref x10, .ref x11, .int (nI (i + 7)), .int (nI (ou + 1))])), (x1, .inl (eI E, 120, .inl tx)), (r, .inl (eI E, 255, .inl g))] [(5, .int (nI (10 * (sg (i + 5) - 48) + (sg (i + 6) - 48)))), (4, .int (nI (sg (i + 4) - 48))), (3, .int (nI (sg (i + 3) - 48))), (2, .int (nI (10 * (sg (i + 1) - 48) + (sg (i + 2) - 48)))), (0, .ref hM), (1, .ref r)] [.int (nI 1)] 77
    refine r_if_eqF C (y := 0) (tgt := 84) dX6_readSlip_77 (by decide) (fun z => ((by decide) : ¬ (1 = 0)) ((z_eqN (by omega)).mp z)) ?_
    refine r_iconst C dX6_readSlip_80 ki_1 ?_
    refine r_goto C 85 dX6_readSlip_81 (by decide) ?_
    exact RT.1 _ _ _ _ _ dX6_readSlip_85 rfl nar_1 (⟨_, rfl, by rw [loL_s hc, if_neg (fun z => h53_1 ⟨z.1, z.2.1, z.2.2.1, z.2.2.2.2⟩)] <;> rfl, by rw [opL_s hc]; unfold tSlip; rw [if_neg (fun z => h53_1 ⟨z.1, z.2.1, z.2.2.1, z.2.2.2.2⟩)]; exact hR⟩) rfl
  · replace h53_1 : (10 * (sg (i + 1) - 48) + (sg (i + 2) - 48)) < 20 ∧ (sg (i + 3) - 48) < sP σ ∧ (sg (i + 4) - 48) < sA σ ∧ sS σ < 20 := Decidable.not_not.mp h53_1
    refine r_aload_n C (i := 1) 5 dX6_readSlip_56 rfl rfl ?_
    refine r_iload_n C (i := 2) 3 dX6_readSlip_57 rfl rfl ?_
    refine r_iload_n C (i := 3) 2 dX6_readSlip_58 rfl rfl ?_
    refine r_iload C (i := 4) 1 dX6_readSlip_59 rfl ?_
    refine r_iload C (i := 5) 0 dX6_readSlip_61 rfl ?_
    refine r_callS (rest := [.ref hM]) C (c_X6_slipOn (r := r) (g := g) (σ := σ) (n := 10 * (sg (i + 1) - 48) + (sg (i + 2) - 48)) (p := sg (i + 3) - 48) (a := sg (i + 4) - 48) (x := 10 * (sg (i + 5) - 48) + (sg (i + 6) - 48)) (hR := hR) (hW := hW) (hn := (by omega)) (hp := (by omega)) (ha := (by omega)) (hx := (by omega)) (hS := (by omega))) lk_X6_slipOn w_5_189 [2] dX6_readSlip_63 rfl rfl rfl ⟨by decide, by decide⟩ (Nat.le_of_ble_eq_true rfl) ?_
    rintro _ _ ⟨g_2, rfl, rfl, hR_3⟩
    have hW_4 : Wf (oSlip σ (10 * (sg (i + 1) - 48) + (sg (i + 2) - 48)) (sg (i + 3) - 48) (sg (i + 4) - 48) (10 * (sg (i + 5) - 48) + (sg (i + 6) - 48))) := oSlip_wf hW (by omega) (by omega) (by omega) (by omega) (by omega)
    show ω [(hM, .inr (6, [.int (nI rf), .ref x1, .int (nI sz), .ref x3, .ref x4, .ref x5, .int (nI ac), .ref x7, .ref x8, .ref x9, .ref x10, .ref x11, .int (nI (i + 7)), .int (nI ou)])), (x1, .inl (eI E, 120, .inl tx)), (r, .inl (eI E, 255, .inl g_2))] [(5, .int (nI (10 * (sg (i + 5) - 48) + (sg (i + 6) - 48)))), (4, .int (nI (sg (i + 4) - 48))), (3, .int (nI (sg (i + 3) - 48))), (2, .int (nI (10 * (sg (i + 1) - 48) + (sg (i + 2) - 48)))), (0, .ref hM), (1, .ref r)] [.int (nI (sS σ)), .ref hM] 66
    refine r_if_ltF C (y := 0) (tgt := 73) dX6_readSlip_66 (by decide) (fun z => ((by omega) : ¬ (sS σ < 0)) ((z_ltN (by omega)).mp z)) ?_
    refine r_iconst C dX6_readSlip_69 ki_1 ?_
    refine r_goto C 74 dX6_readSlip_70 (by decide) ?_
    refine r_callV (rest := []) C (c_X6_done__1 (hM := hM) (rf := rf) (x1 := x1) (sz := sz) (x3 := x3) (x4 := x4) (x5 := x5) (ac := ac) (x7 := x7) (x8 := x8) (x9 := x9) (x10 := x10) (x11 := x11) (sp := i + 7) (ou := ou) ) lk_X6_done w_5_144 [0] rfl dX6_readSlip_74 rfl rfl rfl rfl ⟨by decide, by decide⟩ (Nat.le_of_ble_eq_true rfl) ?_
    rintro _ _ ⟨rfl, rfl⟩
    show ω [(hM, .inr (6, [.int (nI rf), .ref x1, .int (nI sz), .ref x3, .ref x4, .ref x5, .int (nI ac), .ref x7, .ref x8, .ref x9, .ref x10, .ref x11, .int (nI (i + 7)), .int (nI (ou + 0))])), (x1, .inl (eI E, 120, .inl tx)), (r, .inl (eI E, 255, .inl g_2))] [(5, .int (nI (10 * (sg (i + 5) - 48) + (sg (i + 6) - 48)))), (4, .int (nI (sg (i + 4) - 48))), (3, .int (nI (sg (i + 3) - 48))), (2, .int (nI (10 * (sg (i + 1) - 48) + (sg (i + 2) - 48)))), (0, .ref hM), (1, .ref r)] [.int (nI 1)] 77
    refine r_if_eqF C (y := 0) (tgt := 84) dX6_readSlip_77 (by decide) (fun z => ((by decide) : ¬ (1 = 0)) ((z_eqN (by omega)).mp z)) ?_
    refine r_iconst C dX6_readSlip_80 ki_1 ?_
    refine r_goto C 85 dX6_readSlip_81 (by decide) ?_
    exact RT.1 _ _ _ _ _ dX6_readSlip_85 rfl nar_1 (⟨_, rfl, by rw [loL_s hc, if_pos ⟨h53_1.1, h53_1.2.1, h53_1.2.2.1, (by split at g5 <;> omega), h53_1.2.2.2⟩] <;> rfl, by rw [opL_s hc]; unfold tSlip; rw [if_pos ⟨h53_1.1, h53_1.2.1, h53_1.2.2.1, (by split at g5 <;> omega), h53_1.2.2.2⟩]; exact hR_3⟩) rfl
set_option maxRecDepth 100000 in
set_option maxHeartbeats 1000000 in
theorem c_X6_readCommand__a {l : Launch} {E : Ev} {hM rf x1 sz x3 x4 x5 ac x7 x8 x9 x10 x11 ou : Nat} {r : Nat} {g : Nat → Int32} {σ : Sg} (hR : RepM σ g) (hW : Wf σ) {tx : Nat → Int32} {sg : Nat → Nat} (hT : TxR sg sz tx) {i : Nat} (hi : i < sz) (hc : sg i = 97) (hg : ∀ j, j < 1 → gd sg sz i j) : Ct l E yX6_readCommand cX6_readCommand 6 (some FieldType.boolean) 4 94 [.ref hM, .ref r] [(hM, .inr (6, [.int (nI rf), .ref x1, .int (nI sz), .ref x3, .ref x4, .ref x5, .int (nI ac), .ref x7, .ref x8, .ref x9, .ref x10, .ref x11, .int (nI i), .int (nI ou)])), (x1, .inl (eI E, 120, .inl tx)), (r, .inl (eI E, 255, .inl g))] (fun v9 w9 => ∃ g2 : Nat → Int32, v9 = some (.int (nI 1)) ∧ w9 = [(hM, .inr (6, [.int (nI rf), .ref x1, .int (nI sz), .ref x3, .ref x4, .ref x5, .int (nI ac), .ref x7, .ref x8, .ref x9, .ref x10, .ref x11, .int (nI (i + 2)), .int (nI (ou + loC σ sg i))])), (x1, .inl (eI E, 120, .inl tx)), (r, .inl (eI E, 255, .inl g2))] ∧ RepM (opC σ sg i) g2) := by
  have hwP := hW.P
  have hwA := hW.A
  have hwS := hW.S
  have hTz := hT.1
  have g0 := (gdL_a0 hc).mp (hg 0 (by decide))
  have e0 : dD sg i 0 = sg (i + 1) - 48 := rfl
  refine ct_of (by decide +kernel) (Nat.le_of_ble_eq_true rfl) (fun ω C RT => ?_)
  show ω [(hM, .inr (6, [.int (nI rf), .ref x1, .int (nI sz), .ref x3, .ref x4, .ref x5, .int (nI ac), .ref x7, .ref x8, .ref x9, .ref x10, .ref x11, .int (nI i), .int (nI ou)])), (x1, .inl (eI E, 120, .inl tx)), (r, .inl (eI E, 255, .inl g))] [(0, .ref hM), (1, .ref r)] [] 0
  refine r_aload_n C (i := 0) 0 dX6_readCommand_0 rfl rfl ?_
  refine r_get C 0 1 uX6 rfl rfl (by decide) w_5_62 rfl dX6_readCommand_1 ?_
  refine r_aload_n C (i := 0) 0 dX6_readCommand_4 rfl rfl ?_
  refine r_get C 0 12 uX6 rfl rfl (by decide) w_5_73 rfl dX6_readCommand_5 ?_
  refine r_iald (j := i) (v := nI 97) C 1 rfl (by omega) (by decide) ((hT.2 i hi).1.trans (by rw [hc])) dX6_readCommand_8 ?_
  refine r_istore_n C (lv' := [(2, .int (nI 97)), (0, .ref hM), (1, .ref r)]) dX6_readCommand_9 rfl (by decide) rfl ?_
  refine r_aload_n C (i := 0) 1 dX6_readCommand_10 rfl rfl ?_
  refine r_dup C dX6_readCommand_11 rfl ?_
  refine r_get C 0 12 uX6 rfl rfl (by decide) w_5_73 rfl dX6_readCommand_12 ?_
  refine r_iconst C dX6_readCommand_15 ki_1 ?_
  refine r_iadd (v := nI (i + 1)) C dX6_readCommand_16 (nI_add _ _) ?_
  refine r_put (ws' := [(hM, .inr (6, [.int (nI rf), .ref x1, .int (nI sz), .ref x3, .ref x4, .ref x5, .int (nI ac), .ref x7, .ref x8, .ref x9, .ref x10, .ref x11, .int (nI (i + 1)), .int (nI ou)])), (x1, .inl (eI E, 120, .inl tx)), (r, .inl (eI E, 255, .inl g))]) C 0 12 uX6 rfl tyX6_ok nmX6 rfl (by decide) w_5_73 rfl (tyX6_ok 12 (by decide)) rfl rfl (Nat.le_of_ble_eq_true rfl) rfl dX6_readCommand_17 ?_
  refine r_iload_n C (i := 2) 0 dX6_readCommand_20 rfl rfl ?_
  refine r_look (off := 59) C 80 dX6_readCommand_21 (by decide) (by decide) (by decide) ?_
  refine r_aload_n C (i := 0) 1 dX6_readCommand_80 rfl rfl ?_
  refine r_iconst C dX6_readCommand_81 ki_0 ?_
  refine r_iconst C dX6_readCommand_82 ki_1 ?_
  refine r_bipush C dX6_readCommand_83 kb_9 ?_
  refine r_callV (rest := []) C (c_X6_figures__1 (hM := hM) (rf := rf) (x1 := x1) (sz := sz) (x3 := x3) (x4 := x4) (x5 := x5) (ac := ac) (x7 := x7) (x8 := x8) (x9 := x9) (x10 := x10) (x11 := x11) (sp := i + 1) (ou := ou) (tx := tx) (sg := sg) (x := 0) (h := 9) (hT := hT) (hsp := (by omega)) (hx := (by omega)) (hh := (by omega)) (h1 := (show i + 1 < sz ∧ 48 ≤ sg (i + 1) ∧ sg (i + 1) ≤ 57 by omega)) (h2 := (show sg (i + 1) ≤ 48 + 9 by omega))) lk_X6_figures w_5_136 [0, 1] rfl dX6_readCommand_85 rfl rfl rfl rfl ⟨by decide, by decide⟩ (Nat.le_of_ble_eq_true rfl) ?_
  rintro _ _ ⟨rfl, rfl⟩
  show ω [(hM, .inr (6, [.int (nI rf), .ref x1, .int (nI sz), .ref x3, .ref x4, .ref x5, .int (nI ac), .ref x7, .ref x8, .ref x9, .ref x10, .ref x11, .int (nI (i + 2)), .int (nI ou)])), (x1, .inl (eI E, 120, .inl tx)), (r, .inl (eI E, 255, .inl g))] [(2, .int (nI 97)), (0, .ref hM), (1, .ref r)] [.int (nI (sg (i + 1) - 48))] 88
  refine r_istore_n C (lv' := [(3, .int (nI (sg (i + 1) - 48))), (2, .int (nI 97)), (0, .ref hM), (1, .ref r)]) dX6_readCommand_88 rfl (by decide) rfl ?_
  refine r_iload_n C (i := 3) 0 dX6_readCommand_89 rfl rfl ?_
  refine r_iconst C dX6_readCommand_90 ki_m1 ?_
  refine r_icmp_eqF C (tgt := 126) dX6_readCommand_91 (by decide) (fun z => ((by omega) : ¬ (sg (i + 1) - 48 + 1 = 0)) ((c_eqNM (by omega) (by omega)).mp z)) ?_
  refine r_aload_n C (i := 0) 2 dX6_readCommand_94 rfl rfl ?_
  refine r_aload_n C (i := 1) 3 dX6_readCommand_95 rfl rfl ?_
  refine r_iconst C dX6_readCommand_96 ki_1 ?_
  refine r_iald (j := 1) (v := nI (sA σ)) C 2 rfl (by omega) (by decide) hR.A dX6_readCommand_97 ?_
  refine r_bipush C dX6_readCommand_98 kb_10 ?_
  refine r_icmp_ge C (c9 := 10 ≤ sA σ) 115 dX6_readCommand_100 (by decide) (c_leNN (by omega) (by omega)) (fun h100_1 => ?_) (fun h100_1 => ?_)
  · refine r_iconst C dX6_readCommand_115 ki_0 ?_
    refine r_callV (rest := []) C (c_X6_done__0 (hM := hM) (rf := rf) (x1 := x1) (sz := sz) (x3 := x3) (x4 := x4) (x5 := x5) (ac := ac) (x7 := x7) (x8 := x8) (x9 := x9) (x10 := x10) (x11 := x11) (sp := i + 2) (ou := ou) ) lk_X6_done w_5_144 [0] rfl dX6_readCommand_116 rfl rfl rfl rfl ⟨by decide, by decide⟩ (Nat.le_of_ble_eq_true rfl) ?_
    rintro _ _ ⟨rfl, rfl⟩
    show ω [(hM, .inr (6, [.int (nI rf), .ref x1, .int (nI sz), .ref x3, .ref x4, .ref x5, .int (nI ac), .ref x7, .ref x8, .ref x9, .ref x10, .ref x11, .int (nI (i + 2)), .int (nI (ou + 1))])), (x1, .inl (eI E, 120, .inl tx)), (r, .inl (eI E, 255, .inl g))] [(3, .int (nI (sg (i + 1) - 48))), (2, .int (nI 97)), (0, .ref hM), (1, .ref r)] [.int (nI 1)] 119
    refine r_if_eqF C (y := 0) (tgt := 126) dX6_readCommand_119 (by decide) (fun z => ((by decide) : ¬ (1 = 0)) ((z_eqN (by omega)).mp z)) ?_
    refine r_iconst C dX6_readCommand_122 ki_1 ?_
    refine r_goto C 127 dX6_readCommand_123 (by decide) ?_
    exact RT.1 _ _ _ _ _ dX6_readCommand_127 rfl nar_1 (⟨_, rfl, by rw [loL_a hc, if_neg (by omega)] <;> rfl, by rw [opL_a hc]; unfold tHire; rw [if_neg (by omega)]; exact hR⟩) rfl
  · refine r_aload_n C (i := 1) 3 dX6_readCommand_103 rfl rfl ?_
    refine r_iload_n C (i := 3) 0 dX6_readCommand_104 rfl rfl ?_
    refine r_callS (rest := [.ref hM]) C (c_X6_actorOn (r := r) (g := g) (σ := σ) (x := sg (i + 1) - 48) (hR := hR) (hW := hW) (hx := (by omega)) (hA := (by omega))) lk_X6_actorOn w_5_141 [2] dX6_readCommand_105 rfl rfl rfl ⟨by decide, by decide⟩ (Nat.le_of_ble_eq_true rfl) ?_
    rintro _ _ ⟨g_2, rfl, rfl, hR_3⟩
    have hW_4 : Wf (oHire σ (sg (i + 1) - 48)) := oHire_wf hW (by omega) (by omega)
    show ω [(hM, .inr (6, [.int (nI rf), .ref x1, .int (nI sz), .ref x3, .ref x4, .ref x5, .int (nI ac), .ref x7, .ref x8, .ref x9, .ref x10, .ref x11, .int (nI (i + 2)), .int (nI ou)])), (x1, .inl (eI E, 120, .inl tx)), (r, .inl (eI E, 255, .inl g_2))] [(3, .int (nI (sg (i + 1) - 48))), (2, .int (nI 97)), (0, .ref hM), (1, .ref r)] [.int (nI (sA σ)), .ref hM] 108
    refine r_if_ltF C (y := 0) (tgt := 115) dX6_readCommand_108 (by decide) (fun z => ((by omega) : ¬ (sA σ < 0)) ((z_ltN (by omega)).mp z)) ?_
    refine r_iconst C dX6_readCommand_111 ki_1 ?_
    refine r_goto C 116 dX6_readCommand_112 (by decide) ?_
    refine r_callV (rest := []) C (c_X6_done__1 (hM := hM) (rf := rf) (x1 := x1) (sz := sz) (x3 := x3) (x4 := x4) (x5 := x5) (ac := ac) (x7 := x7) (x8 := x8) (x9 := x9) (x10 := x10) (x11 := x11) (sp := i + 2) (ou := ou) ) lk_X6_done w_5_144 [0] rfl dX6_readCommand_116 rfl rfl rfl rfl ⟨by decide, by decide⟩ (Nat.le_of_ble_eq_true rfl) ?_
    rintro _ _ ⟨rfl, rfl⟩
    show ω [(hM, .inr (6, [.int (nI rf), .ref x1, .int (nI sz), .ref x3, .ref x4, .ref x5, .int (nI ac), .ref x7, .ref x8, .ref x9, .ref x10, .ref x11, .int (nI (i + 2)), .int (nI (ou + 0))])), (x1, .inl (eI E, 120, .inl tx)), (r, .inl (eI E, 255, .inl g_2))] [(3, .int (nI (sg (i + 1) - 48))), (2, .int (nI 97)), (0, .ref hM), (1, .ref r)] [.int (nI 1)] 119
    refine r_if_eqF C (y := 0) (tgt := 126) dX6_readCommand_119 (by decide) (fun z => ((by decide) : ¬ (1 = 0)) ((z_eqN (by omega)).mp z)) ?_
    refine r_iconst C dX6_readCommand_122 ki_1 ?_
    refine r_goto C 127 dX6_readCommand_123 (by decide) ?_
    exact RT.1 _ _ _ _ _ dX6_readCommand_127 rfl nar_1 (⟨_, rfl, by rw [loL_a hc, if_pos (by omega)] <;> rfl, by rw [opL_a hc]; unfold tHire; rw [if_pos (by omega)]; exact hR_3⟩) rfl
set_option maxRecDepth 100000 in
set_option maxHeartbeats 1000000 in
theorem c_X6_readCommand__p {l : Launch} {E : Ev} {hM rf x1 sz x3 x4 x5 ac x7 x8 x9 x10 x11 ou : Nat} {r : Nat} {g : Nat → Int32} {σ : Sg} (hR : RepM σ g) (hW : Wf σ) {tx : Nat → Int32} {sg : Nat → Nat} (hT : TxR sg sz tx) {i : Nat} (hi : i < sz) (hc : sg i = 112) (hg : ∀ j, j < 0 → gd sg sz i j) : Ct l E yX6_readCommand cX6_readCommand 6 (some FieldType.boolean) 4 94 [.ref hM, .ref r] [(hM, .inr (6, [.int (nI rf), .ref x1, .int (nI sz), .ref x3, .ref x4, .ref x5, .int (nI ac), .ref x7, .ref x8, .ref x9, .ref x10, .ref x11, .int (nI i), .int (nI ou)])), (x1, .inl (eI E, 120, .inl tx)), (r, .inl (eI E, 255, .inl g))] (fun v9 w9 => ∃ g2 : Nat → Int32, v9 = some (.int (nI 1)) ∧ w9 = [(hM, .inr (6, [.int (nI rf), .ref x1, .int (nI sz), .ref x3, .ref x4, .ref x5, .int (nI ac), .ref x7, .ref x8, .ref x9, .ref x10, .ref x11, .int (nI (i + 1)), .int (nI (ou + loC σ sg i))])), (x1, .inl (eI E, 120, .inl tx)), (r, .inl (eI E, 255, .inl g2))] ∧ RepM (opC σ sg i) g2) := by
  have hwP := hW.P
  have hwA := hW.A
  have hwS := hW.S
  have hTz := hT.1
  refine ct_of (by decide +kernel) (Nat.le_of_ble_eq_true rfl) (fun ω C RT => ?_)
  show ω [(hM, .inr (6, [.int (nI rf), .ref x1, .int (nI sz), .ref x3, .ref x4, .ref x5, .int (nI ac), .ref x7, .ref x8, .ref x9, .ref x10, .ref x11, .int (nI i), .int (nI ou)])), (x1, .inl (eI E, 120, .inl tx)), (r, .inl (eI E, 255, .inl g))] [(0, .ref hM), (1, .ref r)] [] 0
  refine r_aload_n C (i := 0) 0 dX6_readCommand_0 rfl rfl ?_
  refine r_get C 0 1 uX6 rfl rfl (by decide) w_5_62 rfl dX6_readCommand_1 ?_
  refine r_aload_n C (i := 0) 0 dX6_readCommand_4 rfl rfl ?_
  refine r_get C 0 12 uX6 rfl rfl (by decide) w_5_73 rfl dX6_readCommand_5 ?_
  refine r_iald (j := i) (v := nI 112) C 1 rfl (by omega) (by decide) ((hT.2 i hi).1.trans (by rw [hc])) dX6_readCommand_8 ?_
  refine r_istore_n C (lv' := [(2, .int (nI 112)), (0, .ref hM), (1, .ref r)]) dX6_readCommand_9 rfl (by decide) rfl ?_
  refine r_aload_n C (i := 0) 1 dX6_readCommand_10 rfl rfl ?_
  refine r_dup C dX6_readCommand_11 rfl ?_
  refine r_get C 0 12 uX6 rfl rfl (by decide) w_5_73 rfl dX6_readCommand_12 ?_
  refine r_iconst C dX6_readCommand_15 ki_1 ?_
  refine r_iadd (v := nI (i + 1)) C dX6_readCommand_16 (nI_add _ _) ?_
  refine r_put (ws' := [(hM, .inr (6, [.int (nI rf), .ref x1, .int (nI sz), .ref x3, .ref x4, .ref x5, .int (nI ac), .ref x7, .ref x8, .ref x9, .ref x10, .ref x11, .int (nI (i + 1)), .int (nI ou)])), (x1, .inl (eI E, 120, .inl tx)), (r, .inl (eI E, 255, .inl g))]) C 0 12 uX6 rfl tyX6_ok nmX6 rfl (by decide) w_5_73 rfl (tyX6_ok 12 (by decide)) rfl rfl (Nat.le_of_ble_eq_true rfl) rfl dX6_readCommand_17 ?_
  refine r_iload_n C (i := 2) 0 dX6_readCommand_20 rfl rfl ?_
  refine r_look (off := 107) C 128 dX6_readCommand_21 (by decide) (by decide) (by decide) ?_
  refine r_aload_n C (i := 0) 1 dX6_readCommand_128 rfl rfl ?_
  refine r_aload_n C (i := 1) 2 dX6_readCommand_129 rfl rfl ?_
  refine r_iconst C dX6_readCommand_130 ki_0 ?_
  refine r_iald (j := 0) (v := nI (sP σ)) C 2 rfl (by omega) (by decide) hR.P dX6_readCommand_131 ?_
  refine r_bipush C dX6_readCommand_132 kb_6 ?_
  refine r_icmp_ge C (c9 := 6 ≤ sP σ) 148 dX6_readCommand_134 (by decide) (c_leNN (by omega) (by omega)) (fun h134_1 => ?_) (fun h134_1 => ?_)
  · refine r_iconst C dX6_readCommand_148 ki_0 ?_
    refine r_callV (rest := []) C (c_X6_done__0 (hM := hM) (rf := rf) (x1 := x1) (sz := sz) (x3 := x3) (x4 := x4) (x5 := x5) (ac := ac) (x7 := x7) (x8 := x8) (x9 := x9) (x10 := x10) (x11 := x11) (sp := i + 1) (ou := ou) ) lk_X6_done w_5_144 [0] rfl dX6_readCommand_149 rfl rfl rfl rfl ⟨by decide, by decide⟩ (Nat.le_of_ble_eq_true rfl) ?_
    rintro _ _ ⟨rfl, rfl⟩
    show ω [(hM, .inr (6, [.int (nI rf), .ref x1, .int (nI sz), .ref x3, .ref x4, .ref x5, .int (nI ac), .ref x7, .ref x8, .ref x9, .ref x10, .ref x11, .int (nI (i + 1)), .int (nI (ou + 1))])), (x1, .inl (eI E, 120, .inl tx)), (r, .inl (eI E, 255, .inl g))] [(2, .int (nI 112)), (0, .ref hM), (1, .ref r)] [.int (nI 1)] 152
    exact RT.1 _ _ _ _ _ dX6_readCommand_152 rfl nar_1 (⟨_, rfl, by rw [loL_p hc, if_neg (by omega)] <;> rfl, by rw [opL_p hc]; unfold tPart; rw [if_neg (by omega)]; exact hR⟩) rfl
  · refine r_aload_n C (i := 1) 2 dX6_readCommand_137 rfl rfl ?_
    refine r_callS (rest := [.ref hM]) C (c_X6_partOn (r := r) (g := g) (σ := σ) (hR := hR) (hW := hW) (hP := (by omega))) lk_X6_partOn w_5_148 [2] dX6_readCommand_138 rfl rfl rfl ⟨by decide, by decide⟩ (Nat.le_of_ble_eq_true rfl) ?_
    rintro _ _ ⟨g_2, rfl, rfl, hR_3⟩
    have hW_4 : Wf (oPart σ) := oPart_wf hW (by omega)
    show ω [(hM, .inr (6, [.int (nI rf), .ref x1, .int (nI sz), .ref x3, .ref x4, .ref x5, .int (nI ac), .ref x7, .ref x8, .ref x9, .ref x10, .ref x11, .int (nI (i + 1)), .int (nI ou)])), (x1, .inl (eI E, 120, .inl tx)), (r, .inl (eI E, 255, .inl g_2))] [(2, .int (nI 112)), (0, .ref hM), (1, .ref r)] [.int (nI (sP σ)), .ref hM] 141
    refine r_if_ltF C (y := 0) (tgt := 148) dX6_readCommand_141 (by decide) (fun z => ((by omega) : ¬ (sP σ < 0)) ((z_ltN (by omega)).mp z)) ?_
    refine r_iconst C dX6_readCommand_144 ki_1 ?_
    refine r_goto C 149 dX6_readCommand_145 (by decide) ?_
    refine r_callV (rest := []) C (c_X6_done__1 (hM := hM) (rf := rf) (x1 := x1) (sz := sz) (x3 := x3) (x4 := x4) (x5 := x5) (ac := ac) (x7 := x7) (x8 := x8) (x9 := x9) (x10 := x10) (x11 := x11) (sp := i + 1) (ou := ou) ) lk_X6_done w_5_144 [0] rfl dX6_readCommand_149 rfl rfl rfl rfl ⟨by decide, by decide⟩ (Nat.le_of_ble_eq_true rfl) ?_
    rintro _ _ ⟨rfl, rfl⟩
    show ω [(hM, .inr (6, [.int (nI rf), .ref x1, .int (nI sz), .ref x3, .ref x4, .ref x5, .int (nI ac), .ref x7, .ref x8, .ref x9, .ref x10, .ref x11, .int (nI (i + 1)), .int (nI (ou + 0))])), (x1, .inl (eI E, 120, .inl tx)), (r, .inl (eI E, 255, .inl g_2))] [(2, .int (nI 112)), (0, .ref hM), (1, .ref r)] [.int (nI 1)] 152
    exact RT.1 _ _ _ _ _ dX6_readCommand_152 rfl nar_1 (⟨_, rfl, by rw [loL_p hc, if_pos (by omega)] <;> rfl, by rw [opL_p hc]; unfold tPart; rw [if_pos (by omega)]; exact hR_3⟩) rfl
set_option maxRecDepth 100000 in
set_option maxHeartbeats 1000000 in
theorem c_X6_readCommand__c {l : Launch} {E : Ev} {hM rf x1 sz x3 x4 x5 ac x7 x8 x9 x10 x11 ou : Nat} {r : Nat} {g : Nat → Int32} {σ : Sg} (hR : RepM σ g) (hW : Wf σ) {tx : Nat → Int32} {sg : Nat → Nat} (hT : TxR sg sz tx) {i : Nat} (hi : i < sz) (hc : sg i = 99) (hg : ∀ j, j < 4 → gd sg sz i j) : Ct l E yX6_readCommand cX6_readCommand 6 (some FieldType.boolean) 4 94 [.ref hM, .ref r] [(hM, .inr (6, [.int (nI rf), .ref x1, .int (nI sz), .ref x3, .ref x4, .ref x5, .int (nI ac), .ref x7, .ref x8, .ref x9, .ref x10, .ref x11, .int (nI i), .int (nI ou)])), (x1, .inl (eI E, 120, .inl tx)), (r, .inl (eI E, 255, .inl g))] (fun v9 w9 => ∃ g2 : Nat → Int32, v9 = some (.int (nI 1)) ∧ w9 = [(hM, .inr (6, [.int (nI rf), .ref x1, .int (nI sz), .ref x3, .ref x4, .ref x5, .int (nI ac), .ref x7, .ref x8, .ref x9, .ref x10, .ref x11, .int (nI (i + 5)), .int (nI (ou + loC σ sg i))])), (x1, .inl (eI E, 120, .inl tx)), (r, .inl (eI E, 255, .inl g2))] ∧ RepM (opC σ sg i) g2) := by
  have hwP := hW.P
  have hwA := hW.A
  have hwS := hW.S
  have hTz := hT.1
  have g0 := (gdL_c0 hc).mp (hg 0 (by decide))
  have e0 : dD sg i 0 = sg (i + 1) - 48 := rfl
  have g1 := (gdL_c1 hc).mp (hg 1 (by decide))
  have e1 : dD sg i 1 = sg (i + 2) - 48 := rfl
  have g2 := (gdL_c2 hc).mp (hg 2 (by decide))
  have e2 : dD sg i 2 = sg (i + 3) - 48 := rfl
  have g3 := (gdL_c3 hc).mp (hg 3 (by decide))
  have e3 : dD sg i 3 = sg (i + 4) - 48 := rfl
  have h59 : 10 * (sg (i + 3) - 48) + (sg (i + 4) - 48) ≤ 19 := by omega
  refine ct_of (by decide +kernel) (Nat.le_of_ble_eq_true rfl) (fun ω C RT => ?_)
  show ω [(hM, .inr (6, [.int (nI rf), .ref x1, .int (nI sz), .ref x3, .ref x4, .ref x5, .int (nI ac), .ref x7, .ref x8, .ref x9, .ref x10, .ref x11, .int (nI i), .int (nI ou)])), (x1, .inl (eI E, 120, .inl tx)), (r, .inl (eI E, 255, .inl g))] [(0, .ref hM), (1, .ref r)] [] 0
  refine r_aload_n C (i := 0) 0 dX6_readCommand_0 rfl rfl ?_
  refine r_get C 0 1 uX6 rfl rfl (by decide) w_5_62 rfl dX6_readCommand_1 ?_
  refine r_aload_n C (i := 0) 0 dX6_readCommand_4 rfl rfl ?_
  refine r_get C 0 12 uX6 rfl rfl (by decide) w_5_73 rfl dX6_readCommand_5 ?_
  refine r_iald (j := i) (v := nI 99) C 1 rfl (by omega) (by decide) ((hT.2 i hi).1.trans (by rw [hc])) dX6_readCommand_8 ?_
  refine r_istore_n C (lv' := [(2, .int (nI 99)), (0, .ref hM), (1, .ref r)]) dX6_readCommand_9 rfl (by decide) rfl ?_
  refine r_aload_n C (i := 0) 1 dX6_readCommand_10 rfl rfl ?_
  refine r_dup C dX6_readCommand_11 rfl ?_
  refine r_get C 0 12 uX6 rfl rfl (by decide) w_5_73 rfl dX6_readCommand_12 ?_
  refine r_iconst C dX6_readCommand_15 ki_1 ?_
  refine r_iadd (v := nI (i + 1)) C dX6_readCommand_16 (nI_add _ _) ?_
  refine r_put (ws' := [(hM, .inr (6, [.int (nI rf), .ref x1, .int (nI sz), .ref x3, .ref x4, .ref x5, .int (nI ac), .ref x7, .ref x8, .ref x9, .ref x10, .ref x11, .int (nI (i + 1)), .int (nI ou)])), (x1, .inl (eI E, 120, .inl tx)), (r, .inl (eI E, 255, .inl g))]) C 0 12 uX6 rfl tyX6_ok nmX6 rfl (by decide) w_5_73 rfl (tyX6_ok 12 (by decide)) rfl rfl (Nat.le_of_ble_eq_true rfl) rfl dX6_readCommand_17 ?_
  refine r_iload_n C (i := 2) 0 dX6_readCommand_20 rfl rfl ?_
  refine r_look (off := 132) C 153 dX6_readCommand_21 (by decide) (by decide) (by decide) ?_
  refine r_aload_n C (i := 0) 1 dX6_readCommand_153 rfl rfl ?_
  refine r_iconst C dX6_readCommand_154 ki_0 ?_
  refine r_iconst C dX6_readCommand_155 ki_1 ?_
  refine r_iconst C dX6_readCommand_156 ki_5 ?_
  refine r_callV (rest := []) C (c_X6_figures__1 (hM := hM) (rf := rf) (x1 := x1) (sz := sz) (x3 := x3) (x4 := x4) (x5 := x5) (ac := ac) (x7 := x7) (x8 := x8) (x9 := x9) (x10 := x10) (x11 := x11) (sp := i + 1) (ou := ou) (tx := tx) (sg := sg) (x := 0) (h := 5) (hT := hT) (hsp := (by omega)) (hx := (by omega)) (hh := (by omega)) (h1 := (show i + 1 < sz ∧ 48 ≤ sg (i + 1) ∧ sg (i + 1) ≤ 57 by omega)) (h2 := (show sg (i + 1) ≤ 48 + 5 by omega))) lk_X6_figures w_5_136 [0, 1] rfl dX6_readCommand_157 rfl rfl rfl rfl ⟨by decide, by decide⟩ (Nat.le_of_ble_eq_true rfl) ?_
  rintro _ _ ⟨rfl, rfl⟩
  show ω [(hM, .inr (6, [.int (nI rf), .ref x1, .int (nI sz), .ref x3, .ref x4, .ref x5, .int (nI ac), .ref x7, .ref x8, .ref x9, .ref x10, .ref x11, .int (nI (i + 2)), .int (nI ou)])), (x1, .inl (eI E, 120, .inl tx)), (r, .inl (eI E, 255, .inl g))] [(2, .int (nI 99)), (0, .ref hM), (1, .ref r)] [.int (nI (sg (i + 1) - 48))] 160
  refine r_istore_n C (lv' := [(3, .int (nI (sg (i + 1) - 48))), (2, .int (nI 99)), (0, .ref hM), (1, .ref r)]) dX6_readCommand_160 rfl (by decide) rfl ?_
  refine r_aload_n C (i := 0) 2 dX6_readCommand_161 rfl rfl ?_
  refine r_iload_n C (i := 3) 0 dX6_readCommand_162 rfl rfl ?_
  refine r_iconst C dX6_readCommand_163 ki_1 ?_
  refine r_bipush C dX6_readCommand_164 kb_9 ?_
  refine r_callV (rest := []) C (c_X6_figures__1 (hM := hM) (rf := rf) (x1 := x1) (sz := sz) (x3 := x3) (x4 := x4) (x5 := x5) (ac := ac) (x7 := x7) (x8 := x8) (x9 := x9) (x10 := x10) (x11 := x11) (sp := i + 2) (ou := ou) (tx := tx) (sg := sg) (x := sg (i + 1) - 48) (h := 9) (hT := hT) (hsp := (by omega)) (hx := (by omega)) (hh := (by omega)) (h1 := (show i + 2 < sz ∧ 48 ≤ sg (i + 2) ∧ sg (i + 2) ≤ 57 by omega)) (h2 := (show sg (i + 2) ≤ 48 + 9 by omega))) lk_X6_figures w_5_136 [0, 1] rfl dX6_readCommand_166 rfl rfl rfl rfl ⟨by decide, by decide⟩ (Nat.le_of_ble_eq_true rfl) ?_
  rintro _ _ ⟨rfl, rfl⟩
  show ω [(hM, .inr (6, [.int (nI rf), .ref x1, .int (nI sz), .ref x3, .ref x4, .ref x5, .int (nI ac), .ref x7, .ref x8, .ref x9, .ref x10, .ref x11, .int (nI (i + 3)), .int (nI ou)])), (x1, .inl (eI E, 120, .inl tx)), (r, .inl (eI E, 255, .inl g))] [(3, .int (nI (sg (i + 1) - 48))), (2, .int (nI 99)), (0, .ref hM), (1, .ref r)] [.int (nI (sg (i + 2) - 48))] 169
  refine r_istore C (lv' := [(4, .int (nI (sg (i + 2) - 48))), (3, .int (nI (sg (i + 1) - 48))), (2, .int (nI 99)), (0, .ref hM), (1, .ref r)]) dX6_readCommand_169 (by decide) rfl ?_
  refine r_aload_n C (i := 0) 3 dX6_readCommand_171 rfl rfl ?_
  refine r_iload C (i := 4) 0 dX6_readCommand_172 rfl ?_
  refine r_iconst C dX6_readCommand_174 ki_2 ?_
  refine r_bipush C dX6_readCommand_175 kb_19 ?_
  refine r_callV (rest := []) C (c_X6_figures__2 (hM := hM) (rf := rf) (x1 := x1) (sz := sz) (x3 := x3) (x4 := x4) (x5 := x5) (ac := ac) (x7 := x7) (x8 := x8) (x9 := x9) (x10 := x10) (x11 := x11) (sp := i + 3) (ou := ou) (tx := tx) (sg := sg) (x := sg (i + 2) - 48) (h := 19) (hT := hT) (hsp := (by omega)) (hx := (by omega)) (hh := (by omega)) (h1 := (show i + 3 < sz ∧ 48 ≤ sg (i + 3) ∧ sg (i + 3) ≤ 57 by omega)) (h2 := (show i + 4 < sz ∧ 48 ≤ sg (i + 4) ∧ sg (i + 4) ≤ 57 by omega)) (h3 := (show 10 * (sg (i + 3) - 48) + (sg (i + 4) - 48) ≤ 19 by omega))) lk_X6_figures w_5_136 [0, 1] rfl dX6_readCommand_177 rfl rfl rfl rfl ⟨by decide, by decide⟩ (Nat.le_of_ble_eq_true rfl) ?_
  rintro _ _ ⟨rfl, rfl⟩
  show ω [(hM, .inr (6, [.int (nI rf), .ref x1, .int (nI sz), .ref x3, .ref x4, .ref x5, .int (nI ac), .ref x7, .ref x8, .ref x9, .ref x10, .ref x11, .int (nI (i + 5)), .int (nI ou)])), (x1, .inl (eI E, 120, .inl tx)), (r, .inl (eI E, 255, .inl g))] [(4, .int (nI (sg (i + 2) - 48))), (3, .int (nI (sg (i + 1) - 48))), (2, .int (nI 99)), (0, .ref hM), (1, .ref r)] [.int (nI (10 * (sg (i + 3) - 48) + (sg (i + 4) - 48)))] 180
  refine r_istore C (lv' := [(5, .int (nI (10 * (sg (i + 3) - 48) + (sg (i + 4) - 48)))), (4, .int (nI (sg (i + 2) - 48))), (3, .int (nI (sg (i + 1) - 48))), (2, .int (nI 99)), (0, .ref hM), (1, .ref r)]) dX6_readCommand_180 (by decide) rfl ?_
  refine r_iload C (i := 5) 0 dX6_readCommand_182 rfl ?_
  refine r_iconst C dX6_readCommand_184 ki_m1 ?_
  refine r_icmp_eqF C (tgt := 234) dX6_readCommand_185 (by decide) (fun z => ((by omega) : ¬ (10 * (sg (i + 3) - 48) + (sg (i + 4) - 48) + 1 = 0)) ((c_eqNM (by omega) (by omega)).mp z)) ?_
  refine r_aload_n C (i := 0) 4 dX6_readCommand_188 rfl rfl ?_
  refine r_aload_n C (i := 1) 5 dX6_readCommand_189 rfl rfl ?_
  refine r_iload_n C (i := 3) 2 dX6_readCommand_190 rfl rfl ?_
  refine r_readS (rest := [.ref hM]) C (c_X6_isPart (r := r) (g := g) (σ := σ) (i := sg (i + 1) - 48) (hR := hR) (hW := hW) (hi := (by omega))) lk_X6_isPart w_5_151 [2] dX6_readCommand_191 rfl rfl rfl ⟨by decide, by decide⟩ (Nat.le_of_ble_eq_true rfl) (st' := [.int (bP ((sg (i + 1) - 48) < sP σ)), .ref hM]) rfl ?_
  refine r_if_eq C (y := 0) (c9 := ¬ ((sg (i + 1) - 48) < sP σ)) 223 dX6_readCommand_194 (by decide) z_eqB (fun h194_1 => ?_) (fun h194_1 => ?_)
  · refine r_iconst C dX6_readCommand_223 ki_0 ?_
    refine r_callV (rest := []) C (c_X6_done__0 (hM := hM) (rf := rf) (x1 := x1) (sz := sz) (x3 := x3) (x4 := x4) (x5 := x5) (ac := ac) (x7 := x7) (x8 := x8) (x9 := x9) (x10 := x10) (x11 := x11) (sp := i + 5) (ou := ou) ) lk_X6_done w_5_144 [0] rfl dX6_readCommand_224 rfl rfl rfl rfl ⟨by decide, by decide⟩ (Nat.le_of_ble_eq_true rfl) ?_
    rintro _ _ ⟨rfl, rfl⟩
    show ω [(hM, .inr (6, [.int (nI rf), .ref x1, .int (nI sz), .ref x3, .ref x4, .ref x5, .int (nI ac), .ref x7, .ref x8, .ref x9, .ref x10, .ref x11, .int (nI (i + 5)), .int (nI (ou + 1))])), (x1, .inl (eI E, 120, .inl tx)), (r, .inl (eI E, 255, .inl g))] [(5, .int (nI (10 * (sg (i + 3) - 48) + (sg (i + 4) - 48)))), (4, .int (nI (sg (i + 2) - 48))), (3, .int (nI (sg (i + 1) - 48))), (2, .int (nI 99)), (0, .ref hM), (1, .ref r)] [.int (nI 1)] 227
    refine r_if_eqF C (y := 0) (tgt := 234) dX6_readCommand_227 (by decide) (fun z => ((by decide) : ¬ (1 = 0)) ((z_eqN (by omega)).mp z)) ?_
    refine r_iconst C dX6_readCommand_230 ki_1 ?_
    refine r_goto C 235 dX6_readCommand_231 (by decide) ?_
    exact RT.1 _ _ _ _ _ dX6_readCommand_235 rfl nar_1 (⟨_, rfl, by rw [loL_c hc, if_neg (by omega)] <;> rfl, by rw [opL_c hc]; unfold tCast; rw [if_neg (by omega)]; exact hR⟩) rfl
  · replace h194_1 : (sg (i + 1) - 48) < sP σ := Decidable.not_not.mp h194_1
    refine r_aload_n C (i := 1) 5 dX6_readCommand_197 rfl rfl ?_
    refine r_iload C (i := 4) 1 dX6_readCommand_198 rfl ?_
    refine r_readS (rest := [.ref hM]) C (c_X6_isActor (r := r) (g := g) (σ := σ) (i := sg (i + 2) - 48) (hR := hR) (hW := hW) (hi := (by omega))) lk_X6_isActor w_5_154 [2] dX6_readCommand_200 rfl rfl rfl ⟨by decide, by decide⟩ (Nat.le_of_ble_eq_true rfl) (st' := [.int (bP ((sg (i + 2) - 48) < sA σ)), .ref hM]) rfl ?_
    refine r_if_eq C (y := 0) (c9 := ¬ ((sg (i + 2) - 48) < sA σ)) 223 dX6_readCommand_203 (by decide) z_eqB (fun h203_2 => ?_) (fun h203_2 => ?_)
    · refine r_iconst C dX6_readCommand_223 ki_0 ?_
      refine r_callV (rest := []) C (c_X6_done__0 (hM := hM) (rf := rf) (x1 := x1) (sz := sz) (x3 := x3) (x4 := x4) (x5 := x5) (ac := ac) (x7 := x7) (x8 := x8) (x9 := x9) (x10 := x10) (x11 := x11) (sp := i + 5) (ou := ou) ) lk_X6_done w_5_144 [0] rfl dX6_readCommand_224 rfl rfl rfl rfl ⟨by decide, by decide⟩ (Nat.le_of_ble_eq_true rfl) ?_
      rintro _ _ ⟨rfl, rfl⟩
      show ω [(hM, .inr (6, [.int (nI rf), .ref x1, .int (nI sz), .ref x3, .ref x4, .ref x5, .int (nI ac), .ref x7, .ref x8, .ref x9, .ref x10, .ref x11, .int (nI (i + 5)), .int (nI (ou + 1))])), (x1, .inl (eI E, 120, .inl tx)), (r, .inl (eI E, 255, .inl g))] [(5, .int (nI (10 * (sg (i + 3) - 48) + (sg (i + 4) - 48)))), (4, .int (nI (sg (i + 2) - 48))), (3, .int (nI (sg (i + 1) - 48))), (2, .int (nI 99)), (0, .ref hM), (1, .ref r)] [.int (nI 1)] 227
      refine r_if_eqF C (y := 0) (tgt := 234) dX6_readCommand_227 (by decide) (fun z => ((by decide) : ¬ (1 = 0)) ((z_eqN (by omega)).mp z)) ?_
      refine r_iconst C dX6_readCommand_230 ki_1 ?_
      refine r_goto C 235 dX6_readCommand_231 (by decide) ?_
      exact RT.1 _ _ _ _ _ dX6_readCommand_235 rfl nar_1 (⟨_, rfl, by rw [loL_c hc, if_neg (by omega)] <;> rfl, by rw [opL_c hc]; unfold tCast; rw [if_neg (by omega)]; exact hR⟩) rfl
    · replace h203_2 : (sg (i + 2) - 48) < sA σ := Decidable.not_not.mp h203_2
      refine r_aload_n C (i := 1) 5 dX6_readCommand_206 rfl rfl ?_
      refine r_iload_n C (i := 3) 2 dX6_readCommand_207 rfl rfl ?_
      refine r_iload C (i := 4) 1 dX6_readCommand_208 rfl ?_
      refine r_iload C (i := 5) 0 dX6_readCommand_210 rfl ?_
      refine r_callS (rest := [.ref hM]) C (c_X6_castOn__n (r := r) (g := g) (σ := σ) (p := sg (i + 1) - 48) (a := sg (i + 2) - 48) (n := 10 * (sg (i + 3) - 48) + (sg (i + 4) - 48)) (hR := hR) (hW := hW) (hp := (by omega)) (hn := (by omega)) (hx := (by omega))) lk_X6_castOn w_5_157 [2] dX6_readCommand_212 rfl rfl rfl ⟨by decide, by decide⟩ (Nat.le_of_ble_eq_true rfl) ?_
      rintro _ _ ⟨g_3, rfl, rfl, hR_4⟩
      have hW_5 : Wf (oCast σ (sg (i + 1) - 48) ((sg (i + 2) - 48) + 1) (10 * (sg (i + 3) - 48) + (sg (i + 4) - 48))) := oCast_wf hW (by omega)
      show ω [(hM, .inr (6, [.int (nI rf), .ref x1, .int (nI sz), .ref x3, .ref x4, .ref x5, .int (nI ac), .ref x7, .ref x8, .ref x9, .ref x10, .ref x11, .int (nI (i + 5)), .int (nI ou)])), (x1, .inl (eI E, 120, .inl tx)), (r, .inl (eI E, 255, .inl g_3))] [(5, .int (nI (10 * (sg (i + 3) - 48) + (sg (i + 4) - 48)))), (4, .int (nI (sg (i + 2) - 48))), (3, .int (nI (sg (i + 1) - 48))), (2, .int (nI 99)), (0, .ref hM), (1, .ref r)] [.int (mI (sR σ (sg (i + 1) - 48) (10 * (sg (i + 3) - 48) + (sg (i + 4) - 48)))), .ref hM] 215
      have hRl := hW.R (show sg (i + 1) - 48 < sP σ by omega) (show 10 * (sg (i + 3) - 48) + (sg (i + 4) - 48) < 20 by omega)
      refine r_iconst C dX6_readCommand_215 ki_m1 ?_
      refine r_icmp_ltF C (tgt := 223) dX6_readCommand_216 (by decide) (fun z => ((by omega) : ¬ (sR σ (sg (i + 1) - 48) (10 * (sg (i + 3) - 48) + (sg (i + 4) - 48)) < 0)) ((c_ltMM (by omega) (by omega)).mp z)) ?_
      refine r_iconst C dX6_readCommand_219 ki_1 ?_
      refine r_goto C 224 dX6_readCommand_220 (by decide) ?_
      refine r_callV (rest := []) C (c_X6_done__1 (hM := hM) (rf := rf) (x1 := x1) (sz := sz) (x3 := x3) (x4 := x4) (x5 := x5) (ac := ac) (x7 := x7) (x8 := x8) (x9 := x9) (x10 := x10) (x11 := x11) (sp := i + 5) (ou := ou) ) lk_X6_done w_5_144 [0] rfl dX6_readCommand_224 rfl rfl rfl rfl ⟨by decide, by decide⟩ (Nat.le_of_ble_eq_true rfl) ?_
      rintro _ _ ⟨rfl, rfl⟩
      show ω [(hM, .inr (6, [.int (nI rf), .ref x1, .int (nI sz), .ref x3, .ref x4, .ref x5, .int (nI ac), .ref x7, .ref x8, .ref x9, .ref x10, .ref x11, .int (nI (i + 5)), .int (nI (ou + 0))])), (x1, .inl (eI E, 120, .inl tx)), (r, .inl (eI E, 255, .inl g_3))] [(5, .int (nI (10 * (sg (i + 3) - 48) + (sg (i + 4) - 48)))), (4, .int (nI (sg (i + 2) - 48))), (3, .int (nI (sg (i + 1) - 48))), (2, .int (nI 99)), (0, .ref hM), (1, .ref r)] [.int (nI 1)] 227
      refine r_if_eqF C (y := 0) (tgt := 234) dX6_readCommand_227 (by decide) (fun z => ((by decide) : ¬ (1 = 0)) ((z_eqN (by omega)).mp z)) ?_
      refine r_iconst C dX6_readCommand_230 ki_1 ?_
      refine r_goto C 235 dX6_readCommand_231 (by decide) ?_
      exact RT.1 _ _ _ _ _ dX6_readCommand_235 rfl nar_1 (⟨_, rfl, by rw [loL_c hc, if_pos (by omega)] <;> rfl, by rw [opL_c hc]; unfold tCast; rw [if_pos (by omega)]; exact hR_4⟩) rfl
set_option maxRecDepth 100000 in
set_option maxHeartbeats 1000000 in
theorem c_X6_readCommand__u {l : Launch} {E : Ev} {hM rf x1 sz x3 x4 x5 ac x7 x8 x9 x10 x11 ou : Nat} {r : Nat} {g : Nat → Int32} {σ : Sg} (hR : RepM σ g) (hW : Wf σ) {tx : Nat → Int32} {sg : Nat → Nat} (hT : TxR sg sz tx) {i : Nat} (hi : i < sz) (hc : sg i = 117) (hg : ∀ j, j < 2 → gd sg sz i j) : Ct l E yX6_readCommand cX6_readCommand 6 (some FieldType.boolean) 4 94 [.ref hM, .ref r] [(hM, .inr (6, [.int (nI rf), .ref x1, .int (nI sz), .ref x3, .ref x4, .ref x5, .int (nI ac), .ref x7, .ref x8, .ref x9, .ref x10, .ref x11, .int (nI i), .int (nI ou)])), (x1, .inl (eI E, 120, .inl tx)), (r, .inl (eI E, 255, .inl g))] (fun v9 w9 => ∃ g2 : Nat → Int32, v9 = some (.int (nI 1)) ∧ w9 = [(hM, .inr (6, [.int (nI rf), .ref x1, .int (nI sz), .ref x3, .ref x4, .ref x5, .int (nI ac), .ref x7, .ref x8, .ref x9, .ref x10, .ref x11, .int (nI (i + 3)), .int (nI (ou + loC σ sg i))])), (x1, .inl (eI E, 120, .inl tx)), (r, .inl (eI E, 255, .inl g2))] ∧ RepM (opC σ sg i) g2) := by
  have hwP := hW.P
  have hwA := hW.A
  have hwS := hW.S
  have hTz := hT.1
  have g0 := (gdL_u0 hc).mp (hg 0 (by decide))
  have e0 : dD sg i 0 = sg (i + 1) - 48 := rfl
  have g1 := (gdL_u1 hc).mp (hg 1 (by decide))
  have e1 : dD sg i 1 = sg (i + 2) - 48 := rfl
  refine ct_of (by decide +kernel) (Nat.le_of_ble_eq_true rfl) (fun ω C RT => ?_)
  show ω [(hM, .inr (6, [.int (nI rf), .ref x1, .int (nI sz), .ref x3, .ref x4, .ref x5, .int (nI ac), .ref x7, .ref x8, .ref x9, .ref x10, .ref x11, .int (nI i), .int (nI ou)])), (x1, .inl (eI E, 120, .inl tx)), (r, .inl (eI E, 255, .inl g))] [(0, .ref hM), (1, .ref r)] [] 0
  refine r_aload_n C (i := 0) 0 dX6_readCommand_0 rfl rfl ?_
  refine r_get C 0 1 uX6 rfl rfl (by decide) w_5_62 rfl dX6_readCommand_1 ?_
  refine r_aload_n C (i := 0) 0 dX6_readCommand_4 rfl rfl ?_
  refine r_get C 0 12 uX6 rfl rfl (by decide) w_5_73 rfl dX6_readCommand_5 ?_
  refine r_iald (j := i) (v := nI 117) C 1 rfl (by omega) (by decide) ((hT.2 i hi).1.trans (by rw [hc])) dX6_readCommand_8 ?_
  refine r_istore_n C (lv' := [(2, .int (nI 117)), (0, .ref hM), (1, .ref r)]) dX6_readCommand_9 rfl (by decide) rfl ?_
  refine r_aload_n C (i := 0) 1 dX6_readCommand_10 rfl rfl ?_
  refine r_dup C dX6_readCommand_11 rfl ?_
  refine r_get C 0 12 uX6 rfl rfl (by decide) w_5_73 rfl dX6_readCommand_12 ?_
  refine r_iconst C dX6_readCommand_15 ki_1 ?_
  refine r_iadd (v := nI (i + 1)) C dX6_readCommand_16 (nI_add _ _) ?_
  refine r_put (ws' := [(hM, .inr (6, [.int (nI rf), .ref x1, .int (nI sz), .ref x3, .ref x4, .ref x5, .int (nI ac), .ref x7, .ref x8, .ref x9, .ref x10, .ref x11, .int (nI (i + 1)), .int (nI ou)])), (x1, .inl (eI E, 120, .inl tx)), (r, .inl (eI E, 255, .inl g))]) C 0 12 uX6 rfl tyX6_ok nmX6 rfl (by decide) w_5_73 rfl (tyX6_ok 12 (by decide)) rfl rfl (Nat.le_of_ble_eq_true rfl) rfl dX6_readCommand_17 ?_
  refine r_iload_n C (i := 2) 0 dX6_readCommand_20 rfl rfl ?_
  refine r_look (off := 215) C 236 dX6_readCommand_21 (by decide) (by decide) (by decide) ?_
  refine r_aload_n C (i := 0) 1 dX6_readCommand_236 rfl rfl ?_
  refine r_iconst C dX6_readCommand_237 ki_0 ?_
  refine r_iconst C dX6_readCommand_238 ki_1 ?_
  refine r_iconst C dX6_readCommand_239 ki_5 ?_
  refine r_callV (rest := []) C (c_X6_figures__1 (hM := hM) (rf := rf) (x1 := x1) (sz := sz) (x3 := x3) (x4 := x4) (x5 := x5) (ac := ac) (x7 := x7) (x8 := x8) (x9 := x9) (x10 := x10) (x11 := x11) (sp := i + 1) (ou := ou) (tx := tx) (sg := sg) (x := 0) (h := 5) (hT := hT) (hsp := (by omega)) (hx := (by omega)) (hh := (by omega)) (h1 := (show i + 1 < sz ∧ 48 ≤ sg (i + 1) ∧ sg (i + 1) ≤ 57 by omega)) (h2 := (show sg (i + 1) ≤ 48 + 5 by omega))) lk_X6_figures w_5_136 [0, 1] rfl dX6_readCommand_240 rfl rfl rfl rfl ⟨by decide, by decide⟩ (Nat.le_of_ble_eq_true rfl) ?_
  rintro _ _ ⟨rfl, rfl⟩
  show ω [(hM, .inr (6, [.int (nI rf), .ref x1, .int (nI sz), .ref x3, .ref x4, .ref x5, .int (nI ac), .ref x7, .ref x8, .ref x9, .ref x10, .ref x11, .int (nI (i + 2)), .int (nI ou)])), (x1, .inl (eI E, 120, .inl tx)), (r, .inl (eI E, 255, .inl g))] [(2, .int (nI 117)), (0, .ref hM), (1, .ref r)] [.int (nI (sg (i + 1) - 48))] 243
  refine r_istore_n C (lv' := [(3, .int (nI (sg (i + 1) - 48))), (2, .int (nI 117)), (0, .ref hM), (1, .ref r)]) dX6_readCommand_243 rfl (by decide) rfl ?_
  refine r_aload_n C (i := 0) 2 dX6_readCommand_244 rfl rfl ?_
  refine r_iload_n C (i := 3) 0 dX6_readCommand_245 rfl rfl ?_
  refine r_iconst C dX6_readCommand_246 ki_1 ?_
  refine r_bipush C dX6_readCommand_247 kb_9 ?_
  refine r_callV (rest := []) C (c_X6_figures__1 (hM := hM) (rf := rf) (x1 := x1) (sz := sz) (x3 := x3) (x4 := x4) (x5 := x5) (ac := ac) (x7 := x7) (x8 := x8) (x9 := x9) (x10 := x10) (x11 := x11) (sp := i + 2) (ou := ou) (tx := tx) (sg := sg) (x := sg (i + 1) - 48) (h := 9) (hT := hT) (hsp := (by omega)) (hx := (by omega)) (hh := (by omega)) (h1 := (show i + 2 < sz ∧ 48 ≤ sg (i + 2) ∧ sg (i + 2) ≤ 57 by omega)) (h2 := (show sg (i + 2) ≤ 48 + 9 by omega))) lk_X6_figures w_5_136 [0, 1] rfl dX6_readCommand_249 rfl rfl rfl rfl ⟨by decide, by decide⟩ (Nat.le_of_ble_eq_true rfl) ?_
  rintro _ _ ⟨rfl, rfl⟩
  show ω [(hM, .inr (6, [.int (nI rf), .ref x1, .int (nI sz), .ref x3, .ref x4, .ref x5, .int (nI ac), .ref x7, .ref x8, .ref x9, .ref x10, .ref x11, .int (nI (i + 3)), .int (nI ou)])), (x1, .inl (eI E, 120, .inl tx)), (r, .inl (eI E, 255, .inl g))] [(3, .int (nI (sg (i + 1) - 48))), (2, .int (nI 117)), (0, .ref hM), (1, .ref r)] [.int (nI (sg (i + 2) - 48))] 252
  refine r_istore C (lv' := [(4, .int (nI (sg (i + 2) - 48))), (3, .int (nI (sg (i + 1) - 48))), (2, .int (nI 117)), (0, .ref hM), (1, .ref r)]) dX6_readCommand_252 (by decide) rfl ?_
  refine r_iload C (i := 4) 0 dX6_readCommand_254 rfl ?_
  refine r_iconst C dX6_readCommand_256 ki_m1 ?_
  refine r_icmp_eqF C (tgt := 296) dX6_readCommand_257 (by decide) (fun z => ((by omega) : ¬ (sg (i + 2) - 48 + 1 = 0)) ((c_eqNM (by omega) (by omega)).mp z)) ?_
  refine r_aload_n C (i := 0) 3 dX6_readCommand_260 rfl rfl ?_
  refine r_aload_n C (i := 1) 4 dX6_readCommand_261 rfl rfl ?_
  refine r_iload_n C (i := 3) 1 dX6_readCommand_262 rfl rfl ?_
  refine r_iload C (i := 4) 0 dX6_readCommand_263 rfl ?_
  refine r_readS (rest := [.ref hM]) C (c_X6_canStudy (r := r) (g := g) (σ := σ) (p := sg (i + 1) - 48) (a := sg (i + 2) - 48) (hR := hR) (hW := hW) (hp := (by omega)) (ha := (by omega))) lk_X6_canStudy w_5_163 [2] dX6_readCommand_265 rfl rfl rfl ⟨by decide, by decide⟩ (Nat.le_of_ble_eq_true rfl) (st' := [.int (bP ((sg (i + 1) - 48) < sP σ ∧ (sg (i + 2) - 48) < sA σ ∧ sC σ (sg (i + 1) - 48) < 4 ∧ rk σ (sg (i + 1) - 48) (sg (i + 2) - 48) = 0)), .ref hM]) rfl ?_
  refine r_if_eq C (y := 0) (c9 := ¬ ((sg (i + 1) - 48) < sP σ ∧ (sg (i + 2) - 48) < sA σ ∧ sC σ (sg (i + 1) - 48) < 4 ∧ rk σ (sg (i + 1) - 48) (sg (i + 2) - 48) = 0)) 285 dX6_readCommand_268 (by decide) z_eqB (fun h268_1 => ?_) (fun h268_1 => ?_)
  · refine r_iconst C dX6_readCommand_285 ki_0 ?_
    refine r_callV (rest := []) C (c_X6_done__0 (hM := hM) (rf := rf) (x1 := x1) (sz := sz) (x3 := x3) (x4 := x4) (x5 := x5) (ac := ac) (x7 := x7) (x8 := x8) (x9 := x9) (x10 := x10) (x11 := x11) (sp := i + 3) (ou := ou) ) lk_X6_done w_5_144 [0] rfl dX6_readCommand_286 rfl rfl rfl rfl ⟨by decide, by decide⟩ (Nat.le_of_ble_eq_true rfl) ?_
    rintro _ _ ⟨rfl, rfl⟩
    show ω [(hM, .inr (6, [.int (nI rf), .ref x1, .int (nI sz), .ref x3, .ref x4, .ref x5, .int (nI ac), .ref x7, .ref x8, .ref x9, .ref x10, .ref x11, .int (nI (i + 3)), .int (nI (ou + 1))])), (x1, .inl (eI E, 120, .inl tx)), (r, .inl (eI E, 255, .inl g))] [(4, .int (nI (sg (i + 2) - 48))), (3, .int (nI (sg (i + 1) - 48))), (2, .int (nI 117)), (0, .ref hM), (1, .ref r)] [.int (nI 1)] 289
    refine r_if_eqF C (y := 0) (tgt := 296) dX6_readCommand_289 (by decide) (fun z => ((by decide) : ¬ (1 = 0)) ((z_eqN (by omega)).mp z)) ?_
    refine r_iconst C dX6_readCommand_292 ki_1 ?_
    refine r_goto C 297 dX6_readCommand_293 (by decide) ?_
    exact RT.1 _ _ _ _ _ dX6_readCommand_297 rfl nar_1 (⟨_, rfl, by rw [loL_u hc, if_neg (show ¬ (dD sg i 0 < sP σ ∧ dD sg i 1 < sA σ ∧ sC σ (dD sg i 0) < 4 ∧ rk σ (dD sg i 0) (dD sg i 1) = 0) from h268_1)] <;> rfl, by rw [opL_u hc]; unfold tStudy; rw [if_neg (show ¬ (dD sg i 0 < sP σ ∧ dD sg i 1 < sA σ ∧ sC σ (dD sg i 0) < 4 ∧ rk σ (dD sg i 0) (dD sg i 1) = 0) from h268_1)]; exact hR⟩) rfl
  · replace h268_1 : (sg (i + 1) - 48) < sP σ ∧ (sg (i + 2) - 48) < sA σ ∧ sC σ (sg (i + 1) - 48) < 4 ∧ rk σ (sg (i + 1) - 48) (sg (i + 2) - 48) = 0 := Decidable.not_not.mp h268_1
    refine r_aload_n C (i := 1) 4 dX6_readCommand_271 rfl rfl ?_
    refine r_iload_n C (i := 3) 1 dX6_readCommand_272 rfl rfl ?_
    refine r_iload C (i := 4) 0 dX6_readCommand_273 rfl ?_
    refine r_callS (rest := [.ref hM]) C (c_X6_studyOn (r := r) (g := g) (σ := σ) (p := sg (i + 1) - 48) (a := sg (i + 2) - 48) (hR := hR) (hW := hW) (hp := (by omega)) (ha := (by omega)) (hC := (by omega))) lk_X6_studyOn w_5_169 [2] dX6_readCommand_275 rfl rfl rfl ⟨by decide, by decide⟩ (Nat.le_of_ble_eq_true rfl) ?_
    rintro _ _ ⟨g_2, rfl, rfl, hR_3⟩
    have hW_4 : Wf (oStudy σ (sg (i + 1) - 48) (sg (i + 2) - 48)) := oStudy_wf hW (by omega) (by omega)
    show ω [(hM, .inr (6, [.int (nI rf), .ref x1, .int (nI sz), .ref x3, .ref x4, .ref x5, .int (nI ac), .ref x7, .ref x8, .ref x9, .ref x10, .ref x11, .int (nI (i + 3)), .int (nI ou)])), (x1, .inl (eI E, 120, .inl tx)), (r, .inl (eI E, 255, .inl g_2))] [(4, .int (nI (sg (i + 2) - 48))), (3, .int (nI (sg (i + 1) - 48))), (2, .int (nI 117)), (0, .ref hM), (1, .ref r)] [.int (nI (sC σ (sg (i + 1) - 48) + 1)), .ref hM] 278
    refine r_if_leF C (y := 0) (tgt := 285) dX6_readCommand_278 (by decide) (fun z => ((by omega) : ¬ (sC σ (sg (i + 1) - 48) + 1 = 0)) ((z_leN (by omega)).mp z)) ?_
    refine r_iconst C dX6_readCommand_281 ki_1 ?_
    refine r_goto C 286 dX6_readCommand_282 (by decide) ?_
    refine r_callV (rest := []) C (c_X6_done__1 (hM := hM) (rf := rf) (x1 := x1) (sz := sz) (x3 := x3) (x4 := x4) (x5 := x5) (ac := ac) (x7 := x7) (x8 := x8) (x9 := x9) (x10 := x10) (x11 := x11) (sp := i + 3) (ou := ou) ) lk_X6_done w_5_144 [0] rfl dX6_readCommand_286 rfl rfl rfl rfl ⟨by decide, by decide⟩ (Nat.le_of_ble_eq_true rfl) ?_
    rintro _ _ ⟨rfl, rfl⟩
    show ω [(hM, .inr (6, [.int (nI rf), .ref x1, .int (nI sz), .ref x3, .ref x4, .ref x5, .int (nI ac), .ref x7, .ref x8, .ref x9, .ref x10, .ref x11, .int (nI (i + 3)), .int (nI (ou + 0))])), (x1, .inl (eI E, 120, .inl tx)), (r, .inl (eI E, 255, .inl g_2))] [(4, .int (nI (sg (i + 2) - 48))), (3, .int (nI (sg (i + 1) - 48))), (2, .int (nI 117)), (0, .ref hM), (1, .ref r)] [.int (nI 1)] 289
    refine r_if_eqF C (y := 0) (tgt := 296) dX6_readCommand_289 (by decide) (fun z => ((by decide) : ¬ (1 = 0)) ((z_eqN (by omega)).mp z)) ?_
    refine r_iconst C dX6_readCommand_292 ki_1 ?_
    refine r_goto C 297 dX6_readCommand_293 (by decide) ?_
    exact RT.1 _ _ _ _ _ dX6_readCommand_297 rfl nar_1 (⟨_, rfl, by rw [loL_u hc, if_pos (show dD sg i 0 < sP σ ∧ dD sg i 1 < sA σ ∧ sC σ (dD sg i 0) < 4 ∧ rk σ (dD sg i 0) (dD sg i 1) = 0 from h268_1)] <;> rfl, by rw [opL_u hc]; unfold tStudy; rw [if_pos (show dD sg i 0 < sP σ ∧ dD sg i 1 < sA σ ∧ sC σ (dD sg i 0) < 4 ∧ rk σ (dD sg i 0) (dD sg i 1) = 0 from h268_1)]; exact hR_3⟩) rfl
set_option maxRecDepth 100000 in
set_option maxHeartbeats 1000000 in
theorem c_X6_readCommand__i {l : Launch} {E : Ev} {hM rf x1 sz x3 x4 x5 ac x7 x8 x9 x10 x11 ou : Nat} {r : Nat} {g : Nat → Int32} {σ : Sg} (hR : RepM σ g) (hW : Wf σ) {tx : Nat → Int32} {sg : Nat → Nat} (hT : TxR sg sz tx) {i : Nat} (hi : i < sz) (hc : sg i = 105) (hg : ∀ j, j < 3 → gd sg sz i j) : Ct l E yX6_readCommand cX6_readCommand 6 (some FieldType.boolean) 4 94 [.ref hM, .ref r] [(hM, .inr (6, [.int (nI rf), .ref x1, .int (nI sz), .ref x3, .ref x4, .ref x5, .int (nI ac), .ref x7, .ref x8, .ref x9, .ref x10, .ref x11, .int (nI i), .int (nI ou)])), (x1, .inl (eI E, 120, .inl tx)), (r, .inl (eI E, 255, .inl g))] (fun v9 w9 => ∃ g2 : Nat → Int32, v9 = some (.int (nI 1)) ∧ w9 = [(hM, .inr (6, [.int (nI rf), .ref x1, .int (nI sz), .ref x3, .ref x4, .ref x5, .int (nI ac), .ref x7, .ref x8, .ref x9, .ref x10, .ref x11, .int (nI (i + 4)), .int (nI (ou + loC σ sg i))])), (x1, .inl (eI E, 120, .inl tx)), (r, .inl (eI E, 255, .inl g2))] ∧ RepM (opC σ sg i) g2) := by
  have hwP := hW.P
  have hwA := hW.A
  have hwS := hW.S
  have hTz := hT.1
  have g0 := (gdL_i0 hc).mp (hg 0 (by decide))
  have e0 : dD sg i 0 = sg (i + 1) - 48 := rfl
  have g1 := (gdL_i1 hc).mp (hg 1 (by decide))
  have e1 : dD sg i 1 = sg (i + 2) - 48 := rfl
  have g2 := (gdL_i2 hc).mp (hg 2 (by decide))
  have e2 : dD sg i 2 = sg (i + 3) - 48 := rfl
  have h59 : 10 * (sg (i + 2) - 48) + (sg (i + 3) - 48) ≤ 19 := by omega
  refine ct_of (by decide +kernel) (Nat.le_of_ble_eq_true rfl) (fun ω C RT => ?_)
  show ω [(hM, .inr (6, [.int (nI rf), .ref x1, .int (nI sz), .ref x3, .ref x4, .ref x5, .int (nI ac), .ref x7, .ref x8, .ref x9, .ref x10, .ref x11, .int (nI i), .int (nI ou)])), (x1, .inl (eI E, 120, .inl tx)), (r, .inl (eI E, 255, .inl g))] [(0, .ref hM), (1, .ref r)] [] 0
  refine r_aload_n C (i := 0) 0 dX6_readCommand_0 rfl rfl ?_
  refine r_get C 0 1 uX6 rfl rfl (by decide) w_5_62 rfl dX6_readCommand_1 ?_
  refine r_aload_n C (i := 0) 0 dX6_readCommand_4 rfl rfl ?_
  refine r_get C 0 12 uX6 rfl rfl (by decide) w_5_73 rfl dX6_readCommand_5 ?_
  refine r_iald (j := i) (v := nI 105) C 1 rfl (by omega) (by decide) ((hT.2 i hi).1.trans (by rw [hc])) dX6_readCommand_8 ?_
  refine r_istore_n C (lv' := [(2, .int (nI 105)), (0, .ref hM), (1, .ref r)]) dX6_readCommand_9 rfl (by decide) rfl ?_
  refine r_aload_n C (i := 0) 1 dX6_readCommand_10 rfl rfl ?_
  refine r_dup C dX6_readCommand_11 rfl ?_
  refine r_get C 0 12 uX6 rfl rfl (by decide) w_5_73 rfl dX6_readCommand_12 ?_
  refine r_iconst C dX6_readCommand_15 ki_1 ?_
  refine r_iadd (v := nI (i + 1)) C dX6_readCommand_16 (nI_add _ _) ?_
  refine r_put (ws' := [(hM, .inr (6, [.int (nI rf), .ref x1, .int (nI sz), .ref x3, .ref x4, .ref x5, .int (nI ac), .ref x7, .ref x8, .ref x9, .ref x10, .ref x11, .int (nI (i + 1)), .int (nI ou)])), (x1, .inl (eI E, 120, .inl tx)), (r, .inl (eI E, 255, .inl g))]) C 0 12 uX6 rfl tyX6_ok nmX6 rfl (by decide) w_5_73 rfl (tyX6_ok 12 (by decide)) rfl rfl (Nat.le_of_ble_eq_true rfl) rfl dX6_readCommand_17 ?_
  refine r_iload_n C (i := 2) 0 dX6_readCommand_20 rfl rfl ?_
  refine r_look (off := 277) C 298 dX6_readCommand_21 (by decide) (by decide) (by decide) ?_
  refine r_aload_n C (i := 0) 1 dX6_readCommand_298 rfl rfl ?_
  refine r_iconst C dX6_readCommand_299 ki_0 ?_
  refine r_iconst C dX6_readCommand_300 ki_1 ?_
  refine r_bipush C dX6_readCommand_301 kb_9 ?_
  refine r_callV (rest := []) C (c_X6_figures__1 (hM := hM) (rf := rf) (x1 := x1) (sz := sz) (x3 := x3) (x4 := x4) (x5 := x5) (ac := ac) (x7 := x7) (x8 := x8) (x9 := x9) (x10 := x10) (x11 := x11) (sp := i + 1) (ou := ou) (tx := tx) (sg := sg) (x := 0) (h := 9) (hT := hT) (hsp := (by omega)) (hx := (by omega)) (hh := (by omega)) (h1 := (show i + 1 < sz ∧ 48 ≤ sg (i + 1) ∧ sg (i + 1) ≤ 57 by omega)) (h2 := (show sg (i + 1) ≤ 48 + 9 by omega))) lk_X6_figures w_5_136 [0, 1] rfl dX6_readCommand_303 rfl rfl rfl rfl ⟨by decide, by decide⟩ (Nat.le_of_ble_eq_true rfl) ?_
  rintro _ _ ⟨rfl, rfl⟩
  show ω [(hM, .inr (6, [.int (nI rf), .ref x1, .int (nI sz), .ref x3, .ref x4, .ref x5, .int (nI ac), .ref x7, .ref x8, .ref x9, .ref x10, .ref x11, .int (nI (i + 2)), .int (nI ou)])), (x1, .inl (eI E, 120, .inl tx)), (r, .inl (eI E, 255, .inl g))] [(2, .int (nI 105)), (0, .ref hM), (1, .ref r)] [.int (nI (sg (i + 1) - 48))] 306
  refine r_istore_n C (lv' := [(3, .int (nI (sg (i + 1) - 48))), (2, .int (nI 105)), (0, .ref hM), (1, .ref r)]) dX6_readCommand_306 rfl (by decide) rfl ?_
  refine r_aload_n C (i := 0) 2 dX6_readCommand_307 rfl rfl ?_
  refine r_iload_n C (i := 3) 0 dX6_readCommand_308 rfl rfl ?_
  refine r_iconst C dX6_readCommand_309 ki_2 ?_
  refine r_bipush C dX6_readCommand_310 kb_19 ?_
  refine r_callV (rest := []) C (c_X6_figures__2 (hM := hM) (rf := rf) (x1 := x1) (sz := sz) (x3 := x3) (x4 := x4) (x5 := x5) (ac := ac) (x7 := x7) (x8 := x8) (x9 := x9) (x10 := x10) (x11 := x11) (sp := i + 2) (ou := ou) (tx := tx) (sg := sg) (x := sg (i + 1) - 48) (h := 19) (hT := hT) (hsp := (by omega)) (hx := (by omega)) (hh := (by omega)) (h1 := (show i + 2 < sz ∧ 48 ≤ sg (i + 2) ∧ sg (i + 2) ≤ 57 by omega)) (h2 := (show i + 3 < sz ∧ 48 ≤ sg (i + 3) ∧ sg (i + 3) ≤ 57 by omega)) (h3 := (show 10 * (sg (i + 2) - 48) + (sg (i + 3) - 48) ≤ 19 by omega))) lk_X6_figures w_5_136 [0, 1] rfl dX6_readCommand_312 rfl rfl rfl rfl ⟨by decide, by decide⟩ (Nat.le_of_ble_eq_true rfl) ?_
  rintro _ _ ⟨rfl, rfl⟩
  show ω [(hM, .inr (6, [.int (nI rf), .ref x1, .int (nI sz), .ref x3, .ref x4, .ref x5, .int (nI ac), .ref x7, .ref x8, .ref x9, .ref x10, .ref x11, .int (nI (i + 4)), .int (nI ou)])), (x1, .inl (eI E, 120, .inl tx)), (r, .inl (eI E, 255, .inl g))] [(3, .int (nI (sg (i + 1) - 48))), (2, .int (nI 105)), (0, .ref hM), (1, .ref r)] [.int (nI (10 * (sg (i + 2) - 48) + (sg (i + 3) - 48)))] 315
  refine r_istore C (lv' := [(5, .int (nI (10 * (sg (i + 2) - 48) + (sg (i + 3) - 48)))), (3, .int (nI (sg (i + 1) - 48))), (2, .int (nI 105)), (0, .ref hM), (1, .ref r)]) dX6_readCommand_315 (by decide) rfl ?_
  refine r_iload C (i := 5) 0 dX6_readCommand_317 rfl ?_
  refine r_iconst C dX6_readCommand_319 ki_m1 ?_
  refine r_icmp_eqF C (tgt := 358) dX6_readCommand_320 (by decide) (fun z => ((by omega) : ¬ (10 * (sg (i + 2) - 48) + (sg (i + 3) - 48) + 1 = 0)) ((c_eqNM (by omega) (by omega)).mp z)) ?_
  refine r_aload_n C (i := 0) 3 dX6_readCommand_323 rfl rfl ?_
  refine r_aload_n C (i := 1) 4 dX6_readCommand_324 rfl rfl ?_
  refine r_iload_n C (i := 3) 1 dX6_readCommand_325 rfl rfl ?_
  refine r_readS (rest := [.ref hM]) C (c_X6_isActor (r := r) (g := g) (σ := σ) (i := sg (i + 1) - 48) (hR := hR) (hW := hW) (hi := (by omega))) lk_X6_isActor w_5_154 [2] dX6_readCommand_326 rfl rfl rfl ⟨by decide, by decide⟩ (Nat.le_of_ble_eq_true rfl) (st' := [.int (bP ((sg (i + 1) - 48) < sA σ)), .ref hM]) rfl ?_
  refine r_if_eq C (y := 0) (c9 := ¬ ((sg (i + 1) - 48) < sA σ)) 347 dX6_readCommand_329 (by decide) z_eqB (fun h329_1 => ?_) (fun h329_1 => ?_)
  · refine r_iconst C dX6_readCommand_347 ki_0 ?_
    refine r_callV (rest := []) C (c_X6_done__0 (hM := hM) (rf := rf) (x1 := x1) (sz := sz) (x3 := x3) (x4 := x4) (x5 := x5) (ac := ac) (x7 := x7) (x8 := x8) (x9 := x9) (x10 := x10) (x11 := x11) (sp := i + 4) (ou := ou) ) lk_X6_done w_5_144 [0] rfl dX6_readCommand_348 rfl rfl rfl rfl ⟨by decide, by decide⟩ (Nat.le_of_ble_eq_true rfl) ?_
    rintro _ _ ⟨rfl, rfl⟩
    show ω [(hM, .inr (6, [.int (nI rf), .ref x1, .int (nI sz), .ref x3, .ref x4, .ref x5, .int (nI ac), .ref x7, .ref x8, .ref x9, .ref x10, .ref x11, .int (nI (i + 4)), .int (nI (ou + 1))])), (x1, .inl (eI E, 120, .inl tx)), (r, .inl (eI E, 255, .inl g))] [(5, .int (nI (10 * (sg (i + 2) - 48) + (sg (i + 3) - 48)))), (3, .int (nI (sg (i + 1) - 48))), (2, .int (nI 105)), (0, .ref hM), (1, .ref r)] [.int (nI 1)] 351
    refine r_if_eqF C (y := 0) (tgt := 358) dX6_readCommand_351 (by decide) (fun z => ((by decide) : ¬ (1 = 0)) ((z_eqN (by omega)).mp z)) ?_
    refine r_iconst C dX6_readCommand_354 ki_1 ?_
    refine r_goto C 359 dX6_readCommand_355 (by decide) ?_
    exact RT.1 _ _ _ _ _ dX6_readCommand_359 rfl nar_1 (⟨_, rfl, by rw [loL_i hc, if_neg (by omega)] <;> rfl, by rw [opL_i hc]; unfold tIll; rw [if_neg (by omega)]; exact hR⟩) rfl
  · replace h329_1 : (sg (i + 1) - 48) < sA σ := Decidable.not_not.mp h329_1
    refine r_aload_n C (i := 1) 4 dX6_readCommand_332 rfl rfl ?_
    refine r_iload_n C (i := 3) 1 dX6_readCommand_333 rfl rfl ?_
    refine r_iload C (i := 5) 0 dX6_readCommand_334 rfl ?_
    refine r_iconst C dX6_readCommand_336 ki_1 ?_
    refine r_callS (rest := [.ref hM]) C (c_X6_illOn (r := r) (g := g) (σ := σ) (a := sg (i + 1) - 48) (n := 10 * (sg (i + 2) - 48) + (sg (i + 3) - 48)) (b := 1) (hR := hR) (hW := hW) (ha := (by omega)) (hn := (by omega)) (hb := (by omega))) lk_X6_illOn w_5_172 [2] dX6_readCommand_337 rfl rfl rfl ⟨by decide, by decide⟩ (Nat.le_of_ble_eq_true rfl) ?_
    rintro _ _ ⟨g_2, rfl, rfl, hR_3⟩
    have hW_4 : Wf (oIll σ (sg (i + 1) - 48) (10 * (sg (i + 2) - 48) + (sg (i + 3) - 48)) 1) := oIll_wf hW (by omega) (by omega)
    show ω [(hM, .inr (6, [.int (nI rf), .ref x1, .int (nI sz), .ref x3, .ref x4, .ref x5, .int (nI ac), .ref x7, .ref x8, .ref x9, .ref x10, .ref x11, .int (nI (i + 4)), .int (nI ou)])), (x1, .inl (eI E, 120, .inl tx)), (r, .inl (eI E, 255, .inl g_2))] [(5, .int (nI (10 * (sg (i + 2) - 48) + (sg (i + 3) - 48)))), (3, .int (nI (sg (i + 1) - 48))), (2, .int (nI 105)), (0, .ref hM), (1, .ref r)] [.int (nI (cntI (oIll σ (sg (i + 1) - 48) (10 * (sg (i + 2) - 48) + (sg (i + 3) - 48)) 1) (sg (i + 1) - 48) 20)), .ref hM] 340
    have hcg := cntI_ge (σ := oIll σ (sg (i + 1) - 48) (10 * (sg (i + 2) - 48) + (sg (i + 3) - 48)) 1) (sg (i + 1) - 48) (show 10 * (sg (i + 2) - 48) + (sg (i + 3) - 48) < 20 by omega)
    rw [ill_I, if_pos ⟨rfl, rfl⟩] at hcg
    have hcl := cntI_le (oIll_wf (n := 10 * (sg (i + 2) - 48) + (sg (i + 3) - 48)) hW (Nat.le_refl 1) (show sg (i + 1) - 48 < sA σ by omega)) (sg (i + 1) - 48) 20
    refine r_if_leF C (y := 0) (tgt := 347) dX6_readCommand_340 (by decide) (fun z => ((by omega) : ¬ (cntI (oIll σ (sg (i + 1) - 48) (10 * (sg (i + 2) - 48) + (sg (i + 3) - 48)) 1) (sg (i + 1) - 48) 20 = 0)) ((z_leN (by omega)).mp z)) ?_
    refine r_iconst C dX6_readCommand_343 ki_1 ?_
    refine r_goto C 348 dX6_readCommand_344 (by decide) ?_
    refine r_callV (rest := []) C (c_X6_done__1 (hM := hM) (rf := rf) (x1 := x1) (sz := sz) (x3 := x3) (x4 := x4) (x5 := x5) (ac := ac) (x7 := x7) (x8 := x8) (x9 := x9) (x10 := x10) (x11 := x11) (sp := i + 4) (ou := ou) ) lk_X6_done w_5_144 [0] rfl dX6_readCommand_348 rfl rfl rfl rfl ⟨by decide, by decide⟩ (Nat.le_of_ble_eq_true rfl) ?_
    rintro _ _ ⟨rfl, rfl⟩
    show ω [(hM, .inr (6, [.int (nI rf), .ref x1, .int (nI sz), .ref x3, .ref x4, .ref x5, .int (nI ac), .ref x7, .ref x8, .ref x9, .ref x10, .ref x11, .int (nI (i + 4)), .int (nI (ou + 0))])), (x1, .inl (eI E, 120, .inl tx)), (r, .inl (eI E, 255, .inl g_2))] [(5, .int (nI (10 * (sg (i + 2) - 48) + (sg (i + 3) - 48)))), (3, .int (nI (sg (i + 1) - 48))), (2, .int (nI 105)), (0, .ref hM), (1, .ref r)] [.int (nI 1)] 351
    refine r_if_eqF C (y := 0) (tgt := 358) dX6_readCommand_351 (by decide) (fun z => ((by decide) : ¬ (1 = 0)) ((z_eqN (by omega)).mp z)) ?_
    refine r_iconst C dX6_readCommand_354 ki_1 ?_
    refine r_goto C 359 dX6_readCommand_355 (by decide) ?_
    exact RT.1 _ _ _ _ _ dX6_readCommand_359 rfl nar_1 (⟨_, rfl, by rw [loL_i hc, if_pos (by omega)] <;> rfl, by rw [opL_i hc]; unfold tIll; rw [if_pos (by omega)]; exact hR_3⟩) rfl
set_option maxRecDepth 100000 in
set_option maxHeartbeats 1000000 in
theorem c_X6_readCommand__s {l : Launch} {E : Ev} {hM rf x1 sz x3 x4 x5 ac x7 x8 x9 x10 x11 ou : Nat} {r : Nat} {g : Nat → Int32} {σ : Sg} (hR : RepM σ g) (hW : Wf σ) {tx : Nat → Int32} {sg : Nat → Nat} (hT : TxR sg sz tx) {i : Nat} (hi : i < sz) (hc : sg i = 115) (hg : ∀ j, j < 6 → gd sg sz i j) : Ct l E yX6_readCommand cX6_readCommand 6 (some FieldType.boolean) 4 94 [.ref hM, .ref r] [(hM, .inr (6, [.int (nI rf), .ref x1, .int (nI sz), .ref x3, .ref x4, .ref x5, .int (nI ac), .ref x7, .ref x8, .ref x9, .ref x10, .ref x11, .int (nI i), .int (nI ou)])), (x1, .inl (eI E, 120, .inl tx)), (r, .inl (eI E, 255, .inl g))] (fun v9 w9 => ∃ g2 : Nat → Int32, v9 = some (.int (nI 1)) ∧ w9 = [(hM, .inr (6, [.int (nI rf), .ref x1, .int (nI sz), .ref x3, .ref x4, .ref x5, .int (nI ac), .ref x7, .ref x8, .ref x9, .ref x10, .ref x11, .int (nI (i + 7)), .int (nI (ou + loC σ sg i))])), (x1, .inl (eI E, 120, .inl tx)), (r, .inl (eI E, 255, .inl g2))] ∧ RepM (opC σ sg i) g2) := by
  have hwP := hW.P
  have hwA := hW.A
  have hwS := hW.S
  have hTz := hT.1
  have g0 := (gdL_s0 hc).mp (hg 0 (by decide))
  have e0 : dD sg i 0 = sg (i + 1) - 48 := rfl
  have g1 := (gdL_s1 hc).mp (hg 1 (by decide))
  have e1 : dD sg i 1 = sg (i + 2) - 48 := rfl
  have g2 := (gdL_s2 hc).mp (hg 2 (by decide))
  have e2 : dD sg i 2 = sg (i + 3) - 48 := rfl
  have g3 := (gdL_s3 hc).mp (hg 3 (by decide))
  have e3 : dD sg i 3 = sg (i + 4) - 48 := rfl
  have g4 := (gdL_s4 hc).mp (hg 4 (by decide))
  have e4 : dD sg i 4 = sg (i + 5) - 48 := rfl
  have g5 := (gdL_s5 hc).mp (hg 5 (by decide))
  have e5 : dD sg i 5 = sg (i + 6) - 48 := rfl
  refine ct_of (by decide +kernel) (Nat.le_of_ble_eq_true rfl) (fun ω C RT => ?_)
  show ω [(hM, .inr (6, [.int (nI rf), .ref x1, .int (nI sz), .ref x3, .ref x4, .ref x5, .int (nI ac), .ref x7, .ref x8, .ref x9, .ref x10, .ref x11, .int (nI i), .int (nI ou)])), (x1, .inl (eI E, 120, .inl tx)), (r, .inl (eI E, 255, .inl g))] [(0, .ref hM), (1, .ref r)] [] 0
  refine r_aload_n C (i := 0) 0 dX6_readCommand_0 rfl rfl ?_
  refine r_get C 0 1 uX6 rfl rfl (by decide) w_5_62 rfl dX6_readCommand_1 ?_
  refine r_aload_n C (i := 0) 0 dX6_readCommand_4 rfl rfl ?_
  refine r_get C 0 12 uX6 rfl rfl (by decide) w_5_73 rfl dX6_readCommand_5 ?_
  refine r_iald (j := i) (v := nI 115) C 1 rfl (by omega) (by decide) ((hT.2 i hi).1.trans (by rw [hc])) dX6_readCommand_8 ?_
  refine r_istore_n C (lv' := [(2, .int (nI 115)), (0, .ref hM), (1, .ref r)]) dX6_readCommand_9 rfl (by decide) rfl ?_
  refine r_aload_n C (i := 0) 1 dX6_readCommand_10 rfl rfl ?_
  refine r_dup C dX6_readCommand_11 rfl ?_
  refine r_get C 0 12 uX6 rfl rfl (by decide) w_5_73 rfl dX6_readCommand_12 ?_
  refine r_iconst C dX6_readCommand_15 ki_1 ?_
  refine r_iadd (v := nI (i + 1)) C dX6_readCommand_16 (nI_add _ _) ?_
  refine r_put (ws' := [(hM, .inr (6, [.int (nI rf), .ref x1, .int (nI sz), .ref x3, .ref x4, .ref x5, .int (nI ac), .ref x7, .ref x8, .ref x9, .ref x10, .ref x11, .int (nI (i + 1)), .int (nI ou)])), (x1, .inl (eI E, 120, .inl tx)), (r, .inl (eI E, 255, .inl g))]) C 0 12 uX6 rfl tyX6_ok nmX6 rfl (by decide) w_5_73 rfl (tyX6_ok 12 (by decide)) rfl rfl (Nat.le_of_ble_eq_true rfl) rfl dX6_readCommand_17 ?_
  refine r_iload_n C (i := 2) 0 dX6_readCommand_20 rfl rfl ?_
  refine r_look (off := 339) C 360 dX6_readCommand_21 (by decide) (by decide) (by decide) ?_
  refine r_aload_n C (i := 0) 1 dX6_readCommand_360 rfl rfl ?_
  refine r_aload_n C (i := 1) 2 dX6_readCommand_361 rfl rfl ?_
  refine r_callV (rest := []) C (c_X6_readSlip__k (hM := hM) (rf := rf) (x1 := x1) (sz := sz) (x3 := x3) (x4 := x4) (x5 := x5) (ac := ac) (x7 := x7) (x8 := x8) (x9 := x9) (x10 := x10) (x11 := x11) (ou := ou) (r := r) (g := g) (σ := σ) (tx := tx) (sg := sg) (i := i) (hR := hR) (hW := hW) (hT := hT) (hi := (by omega)) (hc := (by omega)) (hg := hg)) lk_X6_readSlip w_5_178 [0, 1, 2] rfl dX6_readCommand_362 rfl rfl rfl rfl ⟨by decide, by decide⟩ (Nat.le_of_ble_eq_true rfl) ?_
  rintro _ _ ⟨g_1, rfl, rfl, hR_2⟩
  have hW_3 : Wf (opC σ sg i) := opC_wf hW sg i
  show ω [(hM, .inr (6, [.int (nI rf), .ref x1, .int (nI sz), .ref x3, .ref x4, .ref x5, .int (nI ac), .ref x7, .ref x8, .ref x9, .ref x10, .ref x11, .int (nI (i + 7)), .int (nI (ou + loC σ sg i))])), (x1, .inl (eI E, 120, .inl tx)), (r, .inl (eI E, 255, .inl g_1))] [(2, .int (nI 115)), (0, .ref hM), (1, .ref r)] [.int (nI 1)] 365
  exact RT.1 _ _ _ _ _ dX6_readCommand_365 rfl nar_1 (⟨_, rfl, rfl, hR_2⟩) rfl
