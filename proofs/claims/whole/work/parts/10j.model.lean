theorem flt_0 {sg : Nat → Nat} {sz : Nat} (h : sz = 0 ∨ sg 0 ≠ 66) : flt sg sz = 1 := by rw [flt, if_pos h]
theorem flt_end {sg : Nat → Nat} {sz c : Nat} (h : ¬ (sz = 0 ∨ sg 0 ≠ 66)) (hc : nC sg sz = c) (hp : sz ≤ pos sg c) : flt sg sz = 0 := by rw [flt, if_neg h, hc, if_pos hp]
theorem flt_bad {sg : Nat → Nat} {sz c : Nat} (h : ¬ (sz = 0 ∨ sg 0 ≠ 66)) (hc : nC sg sz = c) (hp : pos sg c < sz) (hl : isC (sg (pos sg c))) : flt sg sz = pos sg c + 1 + fk sg sz (pos sg c) + 1 := by rw [flt, if_neg h, hc, if_neg (by omega), if_pos hl]
theorem flt_no {sg : Nat → Nat} {sz c : Nat} (h : ¬ (sz = 0 ∨ sg 0 ≠ 66)) (hc : nC sg sz = c) (hp : pos sg c < sz) (hl : ¬ isC (sg (pos sg c))) : flt sg sz = pos sg c + 1 := by rw [flt, if_neg h, hc, if_neg (by omega), if_neg hl]
theorem pos_le {sg : Nat → Nat} {sz : Nat} (hz : sz ≤ 120) : ∀ {c : Nat}, (∀ j, j < c → pos sg j < sz ∧ okC sg sz (pos sg j)) → pos sg c ≤ 130
  | 0, _ => by rw [pos]; omega
  | c + 1, h => by
    have h1 := (h c (Nat.lt_succ_self c)).1
    have h2 := nD_le (sg (pos sg c))
    rw [pos]; omega
theorem flt_le (sg : Nat → Nat) {sz : Nat} : sz ≤ 120 → flt sg sz ≤ 200 := fun h => by
  unfold flt
  split; omega
  split; omega
  rename_i h1 h2
  have h3 := fk_le sg sz (pos sg (nC sg sz))
  have h4 := nD_le (sg (pos sg (nC sg sz)))
  split <;> omega
set_option maxRecDepth 100000 in
set_option maxHeartbeats 1000000 in
theorem c_X6_readText {l : Launch} {E : Ev} {hM rf x1 sz x3 x4 x5 ac x7 x8 x9 x10 x11 sp ou : Nat} {r : Nat} {g : Nat → Int32} {tx : Nat → Int32} {sg : Nat → Nat} (hT : TxR sg sz tx) : Ct l E yX6_readText cX6_readText 2 (some FieldType.int) 5 119 [.ref hM, .ref r] [(hM, .inr (6, [.int (nI rf), .ref x1, .int (nI sz), .ref x3, .ref x4, .ref x5, .int (nI ac), .ref x7, .ref x8, .ref x9, .ref x10, .ref x11, .int (nI sp), .int (nI ou)])), (x1, .inl (eI E, 120, .inl tx)), (r, .inl (eI E, 255, .inl g))] (fun v9 w9 => ∃ (g2 : Nat → Int32) (sp2 ou2 : Nat), v9 = some (.int (mI (flt sg sz))) ∧ w9 = [(hM, .inr (6, [.int (nI rf), .ref x1, .int (nI sz), .ref x3, .ref x4, .ref x5, .int (nI ac), .ref x7, .ref x8, .ref x9, .ref x10, .ref x11, .int (nI sp2), .int (nI ou2)])), (x1, .inl (eI E, 120, .inl tx)), (r, .inl (eI E, 255, .inl g2))] ∧ (flt sg sz = 0 → RepM (stC sg (nC sg sz)) g2 ∧ ou2 = ouC sg (nC sg sz))) := by
  have hTz := hT.1
  refine ct_of (by decide +kernel) (Nat.le_of_ble_eq_true rfl) (fun ω C RT => ?_)
  show ω [(hM, .inr (6, [.int (nI rf), .ref x1, .int (nI sz), .ref x3, .ref x4, .ref x5, .int (nI ac), .ref x7, .ref x8, .ref x9, .ref x10, .ref x11, .int (nI sp), .int (nI ou)])), (x1, .inl (eI E, 120, .inl tx)), (r, .inl (eI E, 255, .inl g))] [(0, .ref hM), (1, .ref r)] [] 0
  refine r_aload_n C (i := 1) 1 dX6_readText_0 rfl rfl ?_
  refine r_callS (rest := []) C (c_X6_begin (r := r) (g := g) ) lk_X6_begin w_5_58 [2] dX6_readText_1 rfl rfl rfl ⟨by decide, by decide⟩ (Nat.le_of_ble_eq_true rfl) ?_
  rintro _ _ ⟨g_1, rfl, rfl, hR_2⟩
  show ω [(hM, .inr (6, [.int (nI rf), .ref x1, .int (nI sz), .ref x3, .ref x4, .ref x5, .int (nI ac), .ref x7, .ref x8, .ref x9, .ref x10, .ref x11, .int (nI sp), .int (nI ou)])), (x1, .inl (eI E, 120, .inl tx)), (r, .inl (eI E, 255, .inl g_1))] [(0, .ref hM), (1, .ref r)] [] 4
  refine r_aload_n C (i := 0) 0 dX6_readText_4 rfl rfl ?_
  refine r_iconst C dX6_readText_5 ki_0 ?_
  refine r_put (ws' := [(hM, .inr (6, [.int (nI rf), .ref x1, .int (nI sz), .ref x3, .ref x4, .ref x5, .int (nI ac), .ref x7, .ref x8, .ref x9, .ref x10, .ref x11, .int (nI sp), .int (nI 0)])), (x1, .inl (eI E, 120, .inl tx)), (r, .inl (eI E, 255, .inl g_1))]) C 0 13 uX6 rfl tyX6_ok nmX6 rfl (by decide) w_5_74 rfl (tyX6_ok 13 (by decide)) rfl rfl (Nat.le_of_ble_eq_true rfl) rfl dX6_readText_6 ?_
  refine r_aload_n C (i := 0) 0 dX6_readText_9 rfl rfl ?_
  refine r_iconst C dX6_readText_10 ki_0 ?_
  refine r_put (ws' := [(hM, .inr (6, [.int (nI rf), .ref x1, .int (nI sz), .ref x3, .ref x4, .ref x5, .int (nI ac), .ref x7, .ref x8, .ref x9, .ref x10, .ref x11, .int (nI 0), .int (nI 0)])), (x1, .inl (eI E, 120, .inl tx)), (r, .inl (eI E, 255, .inl g_1))]) C 0 12 uX6 rfl tyX6_ok nmX6 rfl (by decide) w_5_73 rfl (tyX6_ok 12 (by decide)) rfl rfl (Nat.le_of_ble_eq_true rfl) rfl dX6_readText_11 ?_
  refine r_aload_n C (i := 0) 0 dX6_readText_14 rfl rfl ?_
  refine r_get C 0 2 uX6 rfl rfl (by decide) w_5_63 rfl dX6_readText_15 ?_
  refine r_if_eq C (y := 0) (c9 := sz = 0) 32 dX6_readText_18 (by decide) (z_eqN (by omega)) (fun h18_3 => ?_) (fun h18_3 => ?_)
  · refine r_iconst C dX6_readText_32 ki_0 ?_
    exact RT.1 _ _ _ _ _ dX6_readText_33 rfl rfl (⟨_, _, _, sv ((mI_s 0).symm.trans (congrArg mI (flt_0 (by omega)).symm)), rfl, fun z => by rw [flt_0 (by omega)] at z; cases z⟩) rfl
  · refine r_aload_n C (i := 0) 0 dX6_readText_21 rfl rfl ?_
    refine r_get C 0 1 uX6 rfl rfl (by decide) w_5_62 rfl dX6_readText_22 ?_
    refine r_iconst C dX6_readText_25 ki_0 ?_
    refine r_iald (j := 0) (v := nI (sg 0)) C 1 rfl (by omega) (by decide) ((hT.2 0 (by omega)).1) dX6_readText_26 ?_
    have hz0 := (hT.2 0 (by omega)).2
    refine r_bipush C dX6_readText_27 kb_66 ?_
    refine r_icmp_eq C (c9 := sg 0 = 66) 34 dX6_readText_29 (by decide) (c_eqNN (by omega) (by omega)) (fun h29_4 => ?_) (fun h29_4 => ?_)
    · have hh : ¬ (sz = 0 ∨ sg 0 ≠ 66) := by omega
      refine r_aload_n C (i := 0) 0 dX6_readText_34 rfl rfl ?_
      refine r_iconst C dX6_readText_35 ki_1 ?_
      refine r_put (ws' := [(hM, .inr (6, [.int (nI rf), .ref x1, .int (nI sz), .ref x3, .ref x4, .ref x5, .int (nI ac), .ref x7, .ref x8, .ref x9, .ref x10, .ref x11, .int (nI 1), .int (nI 0)])), (x1, .inl (eI E, 120, .inl tx)), (r, .inl (eI E, 255, .inl g_1))]) C 0 12 uX6 rfl tyX6_ok nmX6 rfl (by decide) w_5_73 rfl (tyX6_ok 12 (by decide)) rfl rfl (Nat.le_of_ble_eq_true rfl) rfl dX6_readText_36 ?_
      have loop39_5 : ∀ (dd9 : Nat) (c : Nat) (i : Nat) (o : Nat) (g2 : Nat → Int32), sz + 120 - i < dd9 → (i = pos sg c) → (o = ouC sg c) → (RepM (stC sg c) g2) → (Wf (stC sg c)) → (∀ j, j < c → pos sg j < sz ∧ okC sg sz (pos sg j)) → ω [(hM, .inr (6, [.int (nI rf), .ref x1, .int (nI sz), .ref x3, .ref x4, .ref x5, .int (nI ac), .ref x7, .ref x8, .ref x9, .ref x10, .ref x11, .int (nI i), .int (nI o)])), (x1, .inl (eI E, 120, .inl tx)), (r, .inl (eI E, 255, .inl g2))] [(0, .ref hM), (1, .ref r)] [] 39 := by
        intro dd9
        induction dd9 with
        | zero => intro c i o g2 hd; exact absurd hd (Nat.not_lt_zero _)
        | succ dd9 ih6 =>
          intro c i o g2 hd hi ho hr hw hpr
          have hnd := nD_le (sg i)
          have hpg := pos_ge sg c
          have hwP := hw.P
          have hwA := hw.A
          have hwS := hw.S
          have hcz : i ≤ 130 := by rw [hi]; exact pos_le hT.1 hpr
          refine r_aload_n C (i := 0) 0 dX6_readText_39 rfl rfl ?_
          refine r_get C 0 12 uX6 rfl rfl (by decide) w_5_73 rfl dX6_readText_40 ?_
          refine r_aload_n C (i := 0) 0 dX6_readText_43 rfl rfl ?_
          refine r_get C 0 2 uX6 rfl rfl (by decide) w_5_63 rfl dX6_readText_44 ?_
          refine r_icmp_ge C (c9 := sz ≤ i) 63 dX6_readText_47 (by decide) (c_leNN (by omega) (by omega)) (fun h47_7 => ?_) (fun h47_7 => ?_)
          · refine r_iconst C dX6_readText_63 ki_m1 ?_
            exact RT.1 _ _ _ _ _ dX6_readText_64 rfl rfl (⟨_, _, _, sv (congrArg mI (flt_end hh (nC_at (Or.inl (by omega)) hpr) (by omega)).symm), rfl, fun _ => by rw [nC_at (Or.inl (by omega)) hpr]; exact ⟨hr, ho⟩⟩) rfl
          · by_cases hl : isC (sg i)
            · have hfl := fk_le sg sz i
              by_cases hf : fk sg sz i = nD (sg i)
              · refine r_aload_n C (i := 0) 0 dX6_readText_50 rfl rfl ?_
                refine r_aload_n C (i := 1) 1 dX6_readText_51 rfl rfl ?_
                refine r_callV (rest := []) C (c_X6_readCommand__ok (hM := hM) (rf := rf) (x1 := x1) (sz := sz) (x3 := x3) (x4 := x4) (x5 := x5) (ac := ac) (x7 := x7) (x8 := x8) (x9 := x9) (x10 := x10) (x11 := x11) (ou := o) (r := r) (g := g2) (σ := (stC sg c)) (tx := tx) (sg := sg) (i := i) (hR := hr) (hW := hw) (hT := hT) (hi := (by omega)) (hok := (⟨hl, hf⟩))) lk_X6_readCommand w_5_132 [0, 1, 2] rfl dX6_readText_52 rfl rfl rfl rfl ⟨by decide, by decide⟩ (Nat.le_of_ble_eq_true rfl) ?_
                rintro _ _ ⟨g_8, rfl, rfl, hR_9⟩
                have hW_10 : Wf (opC (stC sg c) sg i) := opC_wf hw sg i
                show ω [(hM, .inr (6, [.int (nI rf), .ref x1, .int (nI sz), .ref x3, .ref x4, .ref x5, .int (nI ac), .ref x7, .ref x8, .ref x9, .ref x10, .ref x11, .int (nI (i + 1 + nD (sg i))), .int (nI (o + loC (stC sg c) sg i))])), (x1, .inl (eI E, 120, .inl tx)), (r, .inl (eI E, 255, .inl g_8))] [(0, .ref hM), (1, .ref r)] [.int (nI 1)] 55
                refine r_if_neT C (y := 0) 39 dX6_readText_55 (by decide) ((z_neN (by omega)).mpr (by decide)) ?_
                exact ih6 (c + 1) (i + 1 + nD (sg i)) (o + loC (stC sg c) sg i) g_8 (by omega) (by rw [pos, ← hi]) (by rw [ouC, ← hi, ho]) (by rw [stC, ← hi]; exact hR_9) (stC_wf sg (c + 1)) (lt_step hpr (by rw [← hi]; exact ⟨by omega, hl, hf⟩))
              · have hf2 : fk sg sz i < nD (sg i) := by omega
                refine r_aload_n C (i := 0) 0 dX6_readText_50 rfl rfl ?_
                refine r_aload_n C (i := 1) 1 dX6_readText_51 rfl rfl ?_
                refine r_callV (rest := []) C (c_X6_readCommand__bad (hM := hM) (rf := rf) (x1 := x1) (sz := sz) (x3 := x3) (x4 := x4) (x5 := x5) (ac := ac) (x7 := x7) (x8 := x8) (x9 := x9) (x10 := x10) (x11 := x11) (ou := o) (r := r) (g := g2) (σ := (stC sg c)) (tx := tx) (sg := sg) (i := i) (hR := hr) (hW := hw) (hT := hT) (hi := (by omega)) (hl := hl) (hf := hf2)) lk_X6_readCommand w_5_132 [0, 1, 2] rfl dX6_readText_52 rfl rfl rfl rfl ⟨by decide, by decide⟩ (Nat.le_of_ble_eq_true rfl) ?_
                rintro _ _ ⟨rfl, rfl⟩
                show ω [(hM, .inr (6, [.int (nI rf), .ref x1, .int (nI sz), .ref x3, .ref x4, .ref x5, .int (nI ac), .ref x7, .ref x8, .ref x9, .ref x10, .ref x11, .int (nI (i + 1 + fk sg sz i)), .int (nI o)])), (x1, .inl (eI E, 120, .inl tx)), (r, .inl (eI E, 255, .inl g2))] [(0, .ref hM), (1, .ref r)] [.int (nI 0)] 55
                refine r_if_neF C (y := 0) (tgt := 39) dX6_readText_55 (by decide) (fun z => ((by decide) : ¬ (0 ≠ 0)) ((z_neN (by omega)).mp z)) ?_
                refine r_aload_n C (i := 0) 0 dX6_readText_58 rfl rfl ?_
                refine r_get C 0 12 uX6 rfl rfl (by decide) w_5_73 rfl dX6_readText_59 ?_
                exact RT.1 _ _ _ _ _ dX6_readText_62 rfl rfl (⟨_, _, _, sv (by rw [flt_bad hh (nC_at (c := c) (Or.inr (fun z => hf (by rw [hi]; exact z.2))) hpr) (by omega) (by rw [← hi]; exact hl), mI_s, ← hi]), rfl, fun z => by rw [flt_bad hh (nC_at (c := c) (Or.inr (fun z => hf (by rw [hi]; exact z.2))) hpr) (by omega) (by rw [← hi]; exact hl)] at z; cases z⟩) rfl
            · refine r_aload_n C (i := 0) 0 dX6_readText_50 rfl rfl ?_
              refine r_aload_n C (i := 1) 1 dX6_readText_51 rfl rfl ?_
              refine r_callV (rest := []) C (c_X6_readCommand__no (hM := hM) (rf := rf) (x1 := x1) (sz := sz) (x3 := x3) (x4 := x4) (x5 := x5) (ac := ac) (x7 := x7) (x8 := x8) (x9 := x9) (x10 := x10) (x11 := x11) (ou := o) (r := r) (g := g2) (σ := (stC sg c)) (tx := tx) (sg := sg) (i := i) (hR := hr) (hW := hw) (hT := hT) (hi := (by omega)) (hn := hl)) lk_X6_readCommand w_5_132 [0, 1, 2] rfl dX6_readText_52 rfl rfl rfl rfl ⟨by decide, by decide⟩ (Nat.le_of_ble_eq_true rfl) ?_
              rintro _ _ ⟨rfl, rfl⟩
              show ω [(hM, .inr (6, [.int (nI rf), .ref x1, .int (nI sz), .ref x3, .ref x4, .ref x5, .int (nI ac), .ref x7, .ref x8, .ref x9, .ref x10, .ref x11, .int (nI i), .int (nI o)])), (x1, .inl (eI E, 120, .inl tx)), (r, .inl (eI E, 255, .inl g2))] [(0, .ref hM), (1, .ref r)] [.int (nI 0)] 55
              refine r_if_neF C (y := 0) (tgt := 39) dX6_readText_55 (by decide) (fun z => ((by decide) : ¬ (0 ≠ 0)) ((z_neN (by omega)).mp z)) ?_
              refine r_aload_n C (i := 0) 0 dX6_readText_58 rfl rfl ?_
              refine r_get C 0 12 uX6 rfl rfl (by decide) w_5_73 rfl dX6_readText_59 ?_
              exact RT.1 _ _ _ _ _ dX6_readText_62 rfl rfl (⟨_, _, _, sv (by rw [flt_no hh (nC_at (c := c) (Or.inr (fun z => hl (by rw [hi]; exact z.1))) hpr) (by omega) (by rw [← hi]; exact hl), mI_s, ← hi]), rfl, fun z => by rw [flt_no hh (nC_at (c := c) (Or.inr (fun z => hl (by rw [hi]; exact z.1))) hpr) (by omega) (by rw [← hi]; exact hl)] at z; cases z⟩) rfl
      exact loop39_5 _ 0 1 0 g_1 (Nat.lt_succ_self _) rfl rfl hR_2 o0_wf (fun j hj => absurd hj (Nat.not_lt_zero j))
    · refine r_iconst C dX6_readText_32 ki_0 ?_
      exact RT.1 _ _ _ _ _ dX6_readText_33 rfl rfl (⟨_, _, _, sv ((mI_s 0).symm.trans (congrArg mI (flt_0 (by omega)).symm)), rfl, fun z => by rw [flt_0 (by omega)] at z; cases z⟩) rfl
set_option maxRecDepth 100000 in
set_option maxHeartbeats 1000000 in
theorem c_X6_errorPosition {l : Launch} {E : Ev} {hM rf x1 sz x3 x4 x5 ac x7 x8 x9 x10 x11 sp ou : Nat} {g4 : Nat → Int32} {tx : Nat → Int32} {sg : Nat → Nat} (hT : TxR sg sz tx) : Ct l E yX6_errorPosition cX6_errorPosition 1 (some FieldType.int) 6 140 [.ref hM] [(hM, .inr (6, [.int (nI rf), .ref x1, .int (nI sz), .ref x3, .ref x4, .ref x5, .int (nI ac), .ref x7, .ref x8, .ref x9, .ref x10, .ref x11, .int (nI sp), .int (nI ou)])), (x1, .inl (eI E, 120, .inl tx)), (x4, .inl (eI E, 255, .inl g4))] (fun v9 w9 => ∃ (g2 : Nat → Int32) (sp2 ou2 : Nat), v9 = some (.int (mI (flt sg sz))) ∧ w9 = [(hM, .inr (6, [.int (nI 0), .ref x1, .int (nI sz), .ref x3, .ref x4, .ref x5, .int (nI ac), .ref x7, .ref x8, .ref x9, .ref x10, .ref x11, .int (nI sp2), .int (nI ou2)])), (x1, .inl (eI E, 120, .inl tx)), (x4, .inl (eI E, 255, .inl g2))]) := by
  have hTz := hT.1
  refine ct_of (by decide +kernel) (Nat.le_of_ble_eq_true rfl) (fun ω C RT => ?_)
  show ω [(hM, .inr (6, [.int (nI rf), .ref x1, .int (nI sz), .ref x3, .ref x4, .ref x5, .int (nI ac), .ref x7, .ref x8, .ref x9, .ref x10, .ref x11, .int (nI sp), .int (nI ou)])), (x1, .inl (eI E, 120, .inl tx)), (x4, .inl (eI E, 255, .inl g4))] [(0, .ref hM)] [] 0
  refine r_aload_n C (i := 0) 0 dX6_errorPosition_0 rfl rfl ?_
  refine r_iconst C dX6_errorPosition_1 ki_0 ?_
  refine r_put (ws' := [(hM, .inr (6, [.int (nI 0), .ref x1, .int (nI sz), .ref x3, .ref x4, .ref x5, .int (nI ac), .ref x7, .ref x8, .ref x9, .ref x10, .ref x11, .int (nI sp), .int (nI ou)])), (x1, .inl (eI E, 120, .inl tx)), (x4, .inl (eI E, 255, .inl g4))]) C 0 0 uX6 rfl tyX6_ok nmX6 rfl (by decide) w_5_61 rfl (tyX6_ok 0 (by decide)) rfl rfl (Nat.le_of_ble_eq_true rfl) rfl dX6_errorPosition_2 ?_
  refine r_aload_n C (i := 0) 0 dX6_errorPosition_5 rfl rfl ?_
  refine r_aload_n C (i := 0) 0 dX6_errorPosition_6 rfl rfl ?_
  refine r_get C 0 4 uX6 rfl rfl (by decide) w_5_65 rfl dX6_errorPosition_7 ?_
  refine r_callV (rest := []) C (c_X6_readText (hM := hM) (rf := 0) (x1 := x1) (sz := sz) (x3 := x3) (x4 := x4) (x5 := x5) (ac := ac) (x7 := x7) (x8 := x8) (x9 := x9) (x10 := x10) (x11 := x11) (sp := sp) (ou := ou) (r := x4) (g := g4) (tx := tx) (sg := sg) (hT := hT)) lk_X6_readText w_5_128 [0, 1, 2] rfl dX6_errorPosition_10 rfl rfl rfl rfl ⟨by decide, by decide⟩ (Nat.le_of_ble_eq_true rfl) ?_
  rintro _ _ ⟨g_1, sp_2, ou_3, rfl, rfl, hF_4⟩
  show ω [(hM, .inr (6, [.int (nI 0), .ref x1, .int (nI sz), .ref x3, .ref x4, .ref x5, .int (nI ac), .ref x7, .ref x8, .ref x9, .ref x10, .ref x11, .int (nI sp_2), .int (nI ou_3)])), (x1, .inl (eI E, 120, .inl tx)), (x4, .inl (eI E, 255, .inl g_1))] [(0, .ref hM)] [.int (mI (flt sg sz))] 13
  exact RT.1 _ _ _ _ _ dX6_errorPosition_13 rfl rfl (⟨_, _, _, rfl, rfl⟩) rfl
set_option maxRecDepth 100000 in
set_option maxHeartbeats 1000000 in
theorem c_X6_load {l : Launch} {E : Ev} {hM rf x1 sz x3 x4 x5 ac x7 x8 x9 x10 x11 sp ou : Nat} {g : Nat → Int32} {σ : Sg} (hR : RepM σ g) (hW : Wf σ) {g4 : Nat → Int32} {tx : Nat → Int32} {sg : Nat → Nat} (hT : TxR sg sz tx) {K Z : Nat → Int32} (hx : flt sg sz = 0) : Ct l E yX6_load cX6_load 1 (some FieldType.int) 6 140 [.ref hM] [(hM, .inr (6, [.int (nI rf), .ref x1, .int (nI sz), .ref x3, .ref x4, .ref x5, .int (nI ac), .ref x7, .ref x8, .ref x9, .ref x10, .ref x11, .int (nI sp), .int (nI ou)])), (x1, .inl (eI E, 120, .inl tx)), (x3, .inl (eI E, 255, .inl g)), (x4, .inl (eI E, 255, .inl g4)), (x8, .inl (eZ E, 2, .inl Z))] (fun v9 w9 => ∃ (g2 g3 Z2 : Nat → Int32) (sp2 ou2 : Nat), v9 = some (.int (nI (ouC sg (nC sg sz)))) ∧ w9 = [(hM, .inr (6, [.int (nI 0), .ref x1, .int (nI sz), .ref x3, .ref x4, .ref x5, .int (nI 0), .ref x7, .ref x8, .ref x9, .ref x10, .ref x11, .int (nI sp2), .int (nI ou2)])), (x1, .inl (eI E, 120, .inl tx)), (x3, .inl (eI E, 255, .inl g2)), (x4, .inl (eI E, 255, .inl g3)), (x8, .inl (eZ E, 2, .inl Z2))] ∧ RepM (stC sg (nC sg sz)) g2 ∧ KeepM (fun _ => o0) (fun _ => 0) K Z2) := by
  have hTz := hT.1
  refine ct_of (by decide +kernel) (Nat.le_of_ble_eq_true rfl) (fun ω C RT => ?_)
  show ω [(hM, .inr (6, [.int (nI rf), .ref x1, .int (nI sz), .ref x3, .ref x4, .ref x5, .int (nI ac), .ref x7, .ref x8, .ref x9, .ref x10, .ref x11, .int (nI sp), .int (nI ou)])), (x1, .inl (eI E, 120, .inl tx)), (x3, .inl (eI E, 255, .inl g)), (x4, .inl (eI E, 255, .inl g4)), (x8, .inl (eZ E, 2, .inl Z))] [(0, .ref hM)] [] 0
  refine r_aload_n C (i := 0) 0 dX6_load_0 rfl rfl ?_
  refine r_aload_n C (i := 0) 0 dX6_load_1 rfl rfl ?_
  refine r_aload_n C (i := 0) 0 dX6_load_2 rfl rfl ?_
  refine r_get C 0 4 uX6 rfl rfl (by decide) w_5_65 rfl dX6_load_3 ?_
  refine r_callV (rest := [.ref hM]) C (c_X6_readText (hM := hM) (rf := rf) (x1 := x1) (sz := sz) (x3 := x3) (x4 := x4) (x5 := x5) (ac := ac) (x7 := x7) (x8 := x8) (x9 := x9) (x10 := x10) (x11 := x11) (sp := sp) (ou := ou) (r := x4) (g := g4) (tx := tx) (sg := sg) (hT := hT)) lk_X6_readText w_5_128 [0, 1, 3] rfl dX6_load_6 rfl rfl rfl rfl ⟨by decide, by decide⟩ (Nat.le_of_ble_eq_true rfl) ?_
  rintro _ _ ⟨g_1, sp_2, ou_3, rfl, rfl, hF_4⟩
  show ω [(hM, .inr (6, [.int (nI rf), .ref x1, .int (nI sz), .ref x3, .ref x4, .ref x5, .int (nI ac), .ref x7, .ref x8, .ref x9, .ref x10, .ref x11, .int (nI sp_2), .int (nI ou_3)])), (x1, .inl (eI E, 120, .inl tx)), (x3, .inl (eI E, 255, .inl g)), (x4, .inl (eI E, 255, .inl g_1)), (x8, .inl (eZ E, 2, .inl Z))] [(0, .ref hM)] [.int (mI (flt sg sz)), .ref hM] 9
  have hfl : flt sg sz < 2147483648 := by omega
  refine r_iconst C dX6_load_9 ki_m1 ?_
  refine r_icmp_ne C (c9 := flt sg sz ≠ 0) 17 dX6_load_10 (by decide) (c_neMM (by omega) (by omega)) (fun h10_5 => ?_) (fun h10_5 => ?_)
  · refine r_iconst C dX6_load_17 ki_1 ?_
    first | (exfalso; omega) | (exfalso; simp_all; done)
  · refine r_iconst C dX6_load_13 ki_0 ?_
    refine r_goto C 18 dX6_load_14 (by decide) ?_
    refine r_callV (rest := []) C (c_X6_refused (hM := hM) (rf := rf) (x1 := x1) (sz := sz) (x3 := x3) (x4 := x4) (x5 := x5) (ac := ac) (x7 := x7) (x8 := x8) (x9 := x9) (x10 := x10) (x11 := x11) (sp := sp_2) (ou := ou_3) (w := 0) (hw := (by omega))) lk_X6_refused w_5_116 [0] rfl dX6_load_18 rfl rfl rfl rfl ⟨by decide, by decide⟩ (Nat.le_of_ble_eq_true rfl) ?_
    rintro _ _ ⟨rfl, rfl⟩
    show ω [(hM, .inr (6, [.int (nI 0), .ref x1, .int (nI sz), .ref x3, .ref x4, .ref x5, .int (nI ac), .ref x7, .ref x8, .ref x9, .ref x10, .ref x11, .int (nI sp_2), .int (nI ou_3)])), (x1, .inl (eI E, 120, .inl tx)), (x3, .inl (eI E, 255, .inl g)), (x4, .inl (eI E, 255, .inl g_1)), (x8, .inl (eZ E, 2, .inl Z))] [(0, .ref hM)] [.int (bP (0 < 0))] 21
    refine r_if_eqT C (y := 0) 26 dX6_load_21 (by decide) (z_eqB.mpr (by decide)) ?_
    refine r_aload_n C (i := 0) 0 dX6_load_26 rfl rfl ?_
    refine r_get C 0 4 uX6 rfl rfl (by decide) w_5_65 rfl dX6_load_27 ?_
    refine r_iconst C dX6_load_30 ki_0 ?_
    refine r_aload_n C (i := 0) 0 dX6_load_31 rfl rfl ?_
    refine r_get C 0 3 uX6 rfl rfl (by decide) w_5_64 rfl dX6_load_32 ?_
    refine r_iconst C dX6_load_35 ki_0 ?_
    refine r_callS (rest := []) C (c_X6_copyState__255_255 (q2 := x4) (q3 := x3) (fa := 0) (ta := 0) (F := g_1) (F2 := g) (hf := (by omega)) (ht := (by omega))) lk_X6_copyState w_5_196 [3, 2] dX6_load_36 rfl rfl rfl ⟨by decide, by decide⟩ (Nat.le_of_ble_eq_true rfl) ?_
    rintro _ _ ⟨rfl, rfl⟩
    show ω [(hM, .inr (6, [.int (nI 0), .ref x1, .int (nI sz), .ref x3, .ref x4, .ref x5, .int (nI ac), .ref x7, .ref x8, .ref x9, .ref x10, .ref x11, .int (nI sp_2), .int (nI ou_3)])), (x1, .inl (eI E, 120, .inl tx)), (x3, .inl (eI E, 255, .inl (va_cpy g_1 g 0 0 255))), (x4, .inl (eI E, 255, .inl g_1)), (x8, .inl (eZ E, 2, .inl Z))] [(0, .ref hM)] [] 39
    refine r_aload_n C (i := 0) 0 dX6_load_39 rfl rfl ?_
    refine r_iconst C dX6_load_40 ki_0 ?_
    refine r_put (ws' := [(hM, .inr (6, [.int (nI 0), .ref x1, .int (nI sz), .ref x3, .ref x4, .ref x5, .int (nI 0), .ref x7, .ref x8, .ref x9, .ref x10, .ref x11, .int (nI sp_2), .int (nI ou_3)])), (x1, .inl (eI E, 120, .inl tx)), (x3, .inl (eI E, 255, .inl (va_cpy g_1 g 0 0 255))), (x4, .inl (eI E, 255, .inl g_1)), (x8, .inl (eZ E, 2, .inl Z))]) C 0 6 uX6 rfl tyX6_ok nmX6 rfl (by decide) w_5_67 rfl (tyX6_ok 6 (by decide)) rfl rfl (Nat.le_of_ble_eq_true rfl) rfl dX6_load_41 ?_
    refine r_aload_n C (i := 0) 0 dX6_load_44 rfl rfl ?_
    refine r_get C 0 8 uX6 rfl rfl (by decide) w_5_69 rfl dX6_load_45 ?_
    refine r_iconst C dX6_load_48 ki_0 ?_
    refine r_iconst C dX6_load_49 ki_0 ?_
    refine r_zast (j := 0) (ws' := [(hM, .inr (6, [.int (nI 0), .ref x1, .int (nI sz), .ref x3, .ref x4, .ref x5, .int (nI 0), .ref x7, .ref x8, .ref x9, .ref x10, .ref x11, .int (nI sp_2), .int (nI ou_3)])), (x1, .inl (eI E, 120, .inl tx)), (x3, .inl (eI E, 255, .inl (va_cpy g_1 g 0 0 255))), (x4, .inl (eI E, 255, .inl g_1)), (x8, .inl (eZ E, 2, .inl (upd Z 0 (nI 0))))]) C 4 rfl (by omega) (by decide) vnar_0 rfl dX6_load_50 ?_
    refine r_aload_n C (i := 0) 0 dX6_load_51 rfl rfl ?_
    refine r_get C 0 8 uX6 rfl rfl (by decide) w_5_69 rfl dX6_load_52 ?_
    refine r_iconst C dX6_load_55 ki_1 ?_
    refine r_iconst C dX6_load_56 ki_0 ?_
    refine r_zast (j := 1) (ws' := [(hM, .inr (6, [.int (nI 0), .ref x1, .int (nI sz), .ref x3, .ref x4, .ref x5, .int (nI 0), .ref x7, .ref x8, .ref x9, .ref x10, .ref x11, .int (nI sp_2), .int (nI ou_3)])), (x1, .inl (eI E, 120, .inl tx)), (x3, .inl (eI E, 255, .inl (va_cpy g_1 g 0 0 255))), (x4, .inl (eI E, 255, .inl g_1)), (x8, .inl (eZ E, 2, .inl (upd (upd Z 0 (nI 0)) 1 (nI 0))))]) C 4 rfl (by omega) (by decide) vnar_0 rfl dX6_load_57 ?_
    refine r_aload_n C (i := 0) 0 dX6_load_58 rfl rfl ?_
    refine r_get C 0 13 uX6 rfl rfl (by decide) w_5_74 rfl dX6_load_59 ?_
    exact RT.1 _ _ _ _ _ dX6_load_62 rfl rfl (⟨_, _, _, _, _, sv (by rw [(hF_4 hx).2]), rfl, RepM_cp (hF_4 hx).1 (stC_wf _ _), fun i hi => ⟨Nat.zero_le _, (by rcases (by omega : i = 0 ∨ i = 1) with e | e <;> subst e <;> rfl), fun z => absurd (show (0 : Nat) = 1 from z) (by decide)⟩⟩) rfl
set_option maxRecDepth 100000 in
set_option maxHeartbeats 1000000 in
theorem c_X6_load__x1 {l : Launch} {E : Ev} {hM rf x1 sz x3 x4 x5 ac x7 x8 x9 x10 x11 sp ou : Nat} {g : Nat → Int32} {σ : Sg} (hR : RepM σ g) (hW : Wf σ) {g4 : Nat → Int32} {tx : Nat → Int32} {sg : Nat → Nat} (hT : TxR sg sz tx) {K Z : Nat → Int32} (hx : flt sg sz ≠ 0) : Ct l E yX6_load cX6_load 1 (some FieldType.int) 6 140 [.ref hM] [(hM, .inr (6, [.int (nI rf), .ref x1, .int (nI sz), .ref x3, .ref x4, .ref x5, .int (nI ac), .ref x7, .ref x8, .ref x9, .ref x10, .ref x11, .int (nI sp), .int (nI ou)])), (x1, .inl (eI E, 120, .inl tx)), (x3, .inl (eI E, 255, .inl g)), (x4, .inl (eI E, 255, .inl g4)), (x8, .inl (eZ E, 2, .inl Z))] (fun v9 w9 => ∃ (g3 : Nat → Int32) (sp2 ou2 : Nat), v9 = some (.int (nI 0)) ∧ w9 = [(hM, .inr (6, [.int (nI 1), .ref x1, .int (nI sz), .ref x3, .ref x4, .ref x5, .int (nI ac), .ref x7, .ref x8, .ref x9, .ref x10, .ref x11, .int (nI sp2), .int (nI ou2)])), (x1, .inl (eI E, 120, .inl tx)), (x3, .inl (eI E, 255, .inl g)), (x4, .inl (eI E, 255, .inl g3)), (x8, .inl (eZ E, 2, .inl Z))]) := by
  have hTz := hT.1
  refine ct_of (by decide +kernel) (Nat.le_of_ble_eq_true rfl) (fun ω C RT => ?_)
  show ω [(hM, .inr (6, [.int (nI rf), .ref x1, .int (nI sz), .ref x3, .ref x4, .ref x5, .int (nI ac), .ref x7, .ref x8, .ref x9, .ref x10, .ref x11, .int (nI sp), .int (nI ou)])), (x1, .inl (eI E, 120, .inl tx)), (x3, .inl (eI E, 255, .inl g)), (x4, .inl (eI E, 255, .inl g4)), (x8, .inl (eZ E, 2, .inl Z))] [(0, .ref hM)] [] 0
  refine r_aload_n C (i := 0) 0 dX6_load_0 rfl rfl ?_
  refine r_aload_n C (i := 0) 0 dX6_load_1 rfl rfl ?_
  refine r_aload_n C (i := 0) 0 dX6_load_2 rfl rfl ?_
  refine r_get C 0 4 uX6 rfl rfl (by decide) w_5_65 rfl dX6_load_3 ?_
  refine r_callV (rest := [.ref hM]) C (c_X6_readText (hM := hM) (rf := rf) (x1 := x1) (sz := sz) (x3 := x3) (x4 := x4) (x5 := x5) (ac := ac) (x7 := x7) (x8 := x8) (x9 := x9) (x10 := x10) (x11 := x11) (sp := sp) (ou := ou) (r := x4) (g := g4) (tx := tx) (sg := sg) (hT := hT)) lk_X6_readText w_5_128 [0, 1, 3] rfl dX6_load_6 rfl rfl rfl rfl ⟨by decide, by decide⟩ (Nat.le_of_ble_eq_true rfl) ?_
  rintro _ _ ⟨g_1, sp_2, ou_3, rfl, rfl, hF_4⟩
  show ω [(hM, .inr (6, [.int (nI rf), .ref x1, .int (nI sz), .ref x3, .ref x4, .ref x5, .int (nI ac), .ref x7, .ref x8, .ref x9, .ref x10, .ref x11, .int (nI sp_2), .int (nI ou_3)])), (x1, .inl (eI E, 120, .inl tx)), (x3, .inl (eI E, 255, .inl g)), (x4, .inl (eI E, 255, .inl g_1)), (x8, .inl (eZ E, 2, .inl Z))] [(0, .ref hM)] [.int (mI (flt sg sz)), .ref hM] 9
  have hfl := flt_le sg hT.1
  refine r_iconst C dX6_load_9 ki_m1 ?_
  refine r_icmp_ne C (c9 := flt sg sz ≠ 0) 17 dX6_load_10 (by decide) (c_neMM (by omega) (by omega)) (fun h10_5 => ?_) (fun h10_5 => ?_)
  · refine r_iconst C dX6_load_17 ki_1 ?_
    refine r_callV (rest := []) C (c_X6_refused (hM := hM) (rf := rf) (x1 := x1) (sz := sz) (x3 := x3) (x4 := x4) (x5 := x5) (ac := ac) (x7 := x7) (x8 := x8) (x9 := x9) (x10 := x10) (x11 := x11) (sp := sp_2) (ou := ou_3) (w := 1) (hw := (by omega))) lk_X6_refused w_5_116 [0] rfl dX6_load_18 rfl rfl rfl rfl ⟨by decide, by decide⟩ (Nat.le_of_ble_eq_true rfl) ?_
    rintro _ _ ⟨rfl, rfl⟩
    show ω [(hM, .inr (6, [.int (nI 1), .ref x1, .int (nI sz), .ref x3, .ref x4, .ref x5, .int (nI ac), .ref x7, .ref x8, .ref x9, .ref x10, .ref x11, .int (nI sp_2), .int (nI ou_3)])), (x1, .inl (eI E, 120, .inl tx)), (x3, .inl (eI E, 255, .inl g)), (x4, .inl (eI E, 255, .inl g_1)), (x8, .inl (eZ E, 2, .inl Z))] [(0, .ref hM)] [.int (bP (0 < 1))] 21
    refine r_if_eqF C (y := 0) (tgt := 26) dX6_load_21 (by decide) (fun z => ((by decide) : ¬ (¬ (0 < 1))) (z_eqB.mp z)) ?_
    refine r_iconst C dX6_load_24 ki_0 ?_
    exact RT.1 _ _ _ _ _ dX6_load_25 rfl rfl (⟨_, _, _, rfl, rfl⟩) rfl
  · refine r_iconst C dX6_load_13 ki_0 ?_
    refine r_goto C 18 dX6_load_14 (by decide) ?_
    first | (exfalso; omega) | (exfalso; simp_all; done)
