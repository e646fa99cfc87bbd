theorem bp_ne0 {p : Prop} [Decidable p] : bP p ≠ nI 0 ↔ p := by
  by_cases h : p
  · rw [bP, if_pos h]; exact ⟨fun _ => h, fun _ => by decide⟩
  · rw [bP, if_neg h]; exact ⟨fun z => absurd rfl z, fun z => absurd z h⟩
theorem bp_ne1 {p : Prop} [Decidable p] : bP p ≠ nI 1 ↔ ¬ p := by
  by_cases h : p
  · rw [bP, if_pos h]; exact ⟨fun z => absurd rfl z, fun z => absurd h z⟩
  · rw [bP, if_neg h]; exact ⟨fun _ => h, fun _ => by decide⟩
/-! a command of a script: what it makes of the trial, and whether it does -/
def cmS (σ : Sg) (h f : Nat) : Sg :=
  if h = 1 then tCast σ (f / 1000) (f / 100 % 10 + 1) (f % 100)
  else if h = 2 then (if f % 100 = 0 then tStudy σ (f / 1000) (f / 100 % 10) else σ)
  else if h = 3 then (if f % 100 = 0 then tRel σ (f / 1000) (f / 100 % 10) else σ)
  else if h = 4 then (if f % 10 < 2 then tIll σ (f / 1000) (f / 10 % 100) (f % 10) else σ)
  else if h = 5 then tSlip σ (f / 100) (f / 10 % 10) (f % 10) 12
  else if h = 6 then (if f % 100 = 0 then tLose σ (f / 100) else σ)
  else σ
abbrev cmP (σ : Sg) (h f : Nat) : Prop :=
  if h = 1 then f / 1000 < sP σ ∧ f % 100 < 20 ∧ f / 100 % 10 + 1 ≤ sA σ
  else if h = 2 then f % 100 = 0 ∧ (f / 1000 < sP σ ∧ f / 100 % 10 < sA σ ∧ sC σ (f / 1000) < 4 ∧ rk σ (f / 1000) (f / 100 % 10) = 0)
  else if h = 3 then f % 100 = 0 ∧ (f / 1000 < sP σ ∧ f / 100 % 10 < sA σ ∧ rk σ (f / 1000) (f / 100 % 10) ≠ 0)
  else if h = 4 then f % 10 < 2 ∧ (f / 1000 < sA σ ∧ f / 10 % 100 < 20)
  else if h = 5 then f / 100 < 20 ∧ f / 10 % 10 < sP σ ∧ f % 10 < sA σ ∧ 12 < 24 ∧ sS σ < 20
  else if h = 6 then f % 100 = 0 ∧ f / 100 < sS σ
  else if h = 7 then f / 100 < 20 ∧ f / 10 % 10 < sP σ ∧ f % 10 < sA σ ∧ ply σ (f / 100) (f % 10) = f / 10 % 10 + 1
  else if h = 8 then f % 100 < 2 ∧ f / 100 < 20 ∧ dk σ (f / 100) = f % 10
  else if h = 9 then f / 100 = 0 ∧ dkS σ 20 ≤ f % 100
  else False
def cmN (σ : Sg) (h f : Nat) : Nat := if cmP σ h f then 1 else 0
theorem cmS_wf {σ : Sg} (hW : Wf σ) (h f : Nat) : Wf (cmS σ h f) := by
  unfold cmS
  split; exact tCast_wf hW
  split; split; exact tStudy_wf hW; exact hW
  split; split; exact tRel_wf hW; exact hW
  split; split; exact tIll_wf hW (by omega); exact hW
  split; exact tSlip_wf hW
  split; split; exact tLose_wf hW; exact hW
  exact hW
theorem cmN_le (σ : Sg) (h f : Nat) : cmN σ h f ≤ 1 := by unfold cmN; split <;> omega
theorem cm_y {σ : Sg} {h f : Nat} (z : cmP σ h f) : nI 1 = nI (cmN σ h f) := congrArg nI (if_pos z).symm
theorem cm_n {σ : Sg} {h f : Nat} (z : ¬ cmP σ h f) : nI 0 = nI (cmN σ h f) := congrArg nI (if_neg z).symm
set_option maxRecDepth 100000 in
set_option maxHeartbeats 1000000 in
theorem c_X6_command__0 {l : Launch} {E : Ev} {hM rf x1 sz x3 x4 x5 ac x7 x8 x9 x10 x11 sp ou : Nat} {t1 t2 t3 : Nat → Int32} {g : Nat → Int32} {σ : Sg} (hR : RepM σ g) (hW : Wf σ) {four : Nat} (hf : four < 10000) : Ct l E yX6_command cX6_command 9 (some FieldType.boolean) 5 123 [.ref hM, .int (nI 0), .int (nI four)] [(hM, .inr (6, [.int (nI rf), .ref x1, .int (nI sz), .ref x3, .ref x4, .ref x5, .int (nI ac), .ref x7, .ref x8, .ref x9, .ref x10, .ref x11, .int (nI sp), .int (nI ou)])), (x9, .inl (eI E, 6, .inl t1)), (x10, .inl (eI E, 6, .inl t2)), (x11, .inl (eI E, 6, .inl t3)), (x4, .inl (eI E, 255, .inl g))] (fun v9 w9 => ∃ ta tb tc g2 : Nat → Int32, v9 = some (.int (nI (cmN σ 0 four))) ∧ w9 = [(hM, .inr (6, [.int (nI rf), .ref x1, .int (nI sz), .ref x3, .ref x4, .ref x5, .int (nI ac), .ref x7, .ref x8, .ref x9, .ref x10, .ref x11, .int (nI sp), .int (nI ou)])), (x9, .inl (eI E, 6, .inl ta)), (x10, .inl (eI E, 6, .inl tb)), (x11, .inl (eI E, 6, .inl tc)), (x4, .inl (eI E, 255, .inl g2))] ∧ RepM (cmS σ 0 four) g2) := by
  have hwP := hW.P
  have hwA := hW.A
  have hwS := hW.S
  have hRb : ∀ p n, p < sP σ → n < 20 → sR σ p n ≤ 10 := fun p n hp hn => Nat.le_trans (hW.R hp hn) hW.A
  refine ct_of (by decide +kernel) (Nat.le_of_ble_eq_true rfl) (fun ω C RT => ?_)
  show ω [(hM, .inr (6, [.int (nI rf), .ref x1, .int (nI sz), .ref x3, .ref x4, .ref x5, .int (nI ac), .ref x7, .ref x8, .ref x9, .ref x10, .ref x11, .int (nI sp), .int (nI ou)])), (x9, .inl (eI E, 6, .inl t1)), (x10, .inl (eI E, 6, .inl t2)), (x11, .inl (eI E, 6, .inl t3)), (x4, .inl (eI E, 255, .inl g))] [(0, .ref hM), (1, .int (nI 0)), (2, .int (nI four))] [] 0
  refine r_iload_n C (i := 2) 2 dX6_command_0 rfl rfl ?_
  refine r_sipush C dX6_command_1 ks_1000 ?_
  refine r_idiv (v := nI (four / 1000)) C dX6_command_4 (v_nz (by omega) (by omega)) (v_div (by omega) (by omega) (by omega)) ?_
  refine r_istore_n C (lv' := [(3, .int (nI (four / 1000))), (0, .ref hM), (1, .int (nI 0)), (2, .int (nI four))]) dX6_command_5 rfl (by decide) rfl ?_
  refine r_iload_n C (i := 2) 3 dX6_command_6 rfl rfl ?_
  refine r_bipush C dX6_command_7 kb_100 ?_
  refine r_idiv (v := nI (four / 100)) C dX6_command_9 (v_nz (by omega) (by omega)) (v_div (by omega) (by omega) (by omega)) ?_
  refine r_istore C (lv' := [(4, .int (nI (four / 100))), (3, .int (nI (four / 1000))), (0, .ref hM), (1, .int (nI 0)), (2, .int (nI four))]) dX6_command_10 (by decide) rfl ?_
  refine r_iload C (i := 4) 0 dX6_command_12 rfl ?_
  refine r_bipush C dX6_command_14 kb_10 ?_
  refine r_irem (v := nI ((four / 100) % 10)) C dX6_command_16 (v_nz (by omega) (by omega)) (v_rem (by omega) (by omega) (by omega)) ?_
  refine r_istore C (lv' := [(5, .int (nI ((four / 100) % 10))), (4, .int (nI (four / 100))), (3, .int (nI (four / 1000))), (0, .ref hM), (1, .int (nI 0)), (2, .int (nI four))]) dX6_command_17 (by decide) rfl ?_
  refine r_iload_n C (i := 2) 5 dX6_command_19 rfl rfl ?_
  refine r_bipush C dX6_command_20 kb_100 ?_
  refine r_irem (v := nI (four % 100)) C dX6_command_22 (v_nz (by omega) (by omega)) (v_rem (by omega) (by omega) (by omega)) ?_
  refine r_istore C (lv' := [(6, .int (nI (four % 100))), (5, .int (nI ((four / 100) % 10))), (4, .int (nI (four / 100))), (3, .int (nI (four / 1000))), (0, .ref hM), (1, .int (nI 0)), (2, .int (nI four))]) dX6_command_23 (by decide) rfl ?_
  refine r_iload_n C (i := 2) 6 dX6_command_25 rfl rfl ?_
  refine r_bipush C dX6_command_26 kb_10 ?_
  refine r_idiv (v := nI (four / 10)) C dX6_command_28 (v_nz (by omega) (by omega)) (v_div (by omega) (by omega) (by omega)) ?_
  refine r_bipush C dX6_command_29 kb_10 ?_
  refine r_irem (v := nI ((four / 10) % 10)) C dX6_command_31 (v_nz (by omega) (by omega)) (v_rem (by omega) (by omega) (by omega)) ?_
  refine r_istore C (lv' := [(7, .int (nI ((four / 10) % 10))), (6, .int (nI (four % 100))), (5, .int (nI ((four / 100) % 10))), (4, .int (nI (four / 100))), (3, .int (nI (four / 1000))), (0, .ref hM), (1, .int (nI 0)), (2, .int (nI four))]) dX6_command_32 (by decide) rfl ?_
  refine r_iload_n C (i := 2) 7 dX6_command_34 rfl rfl ?_
  refine r_bipush C dX6_command_35 kb_10 ?_
  refine r_irem (v := nI (four % 10)) C dX6_command_37 (v_nz (by omega) (by omega)) (v_rem (by omega) (by omega) (by omega)) ?_
  refine r_istore C (lv' := [(8, .int (nI (four % 10))), (7, .int (nI ((four / 10) % 10))), (6, .int (nI (four % 100))), (5, .int (nI ((four / 100) % 10))), (4, .int (nI (four / 100))), (3, .int (nI (four / 1000))), (0, .ref hM), (1, .int (nI 0)), (2, .int (nI four))]) dX6_command_38 (by decide) rfl ?_
  refine r_iload_n C (i := 1) 7 dX6_command_40 rfl rfl ?_
  refine r_tabOut C 506 dX6_command_41 (by decide) (by decide) ?_
  refine r_iconst C dX6_command_506 ki_0 ?_
  exact RT.1 _ _ _ _ _ dX6_command_507 rfl nar_0 (⟨_, _, _, _, sv (cm_n (by show ¬ False; exact not_false)), rfl, hR⟩) rfl
set_option maxRecDepth 100000 in
set_option maxHeartbeats 1000000 in
theorem c_X6_command__1 {l : Launch} {E : Ev} {hM rf x1 sz x3 x4 x5 ac x7 x8 x9 x10 x11 sp ou : Nat} {t1 t2 t3 : Nat → Int32} {g : Nat → Int32} {σ : Sg} (hR : RepM σ g) (hW : Wf σ) {four : Nat} (hf : four < 10000) : Ct l E yX6_command cX6_command 9 (some FieldType.boolean) 5 123 [.ref hM, .int (nI 1), .int (nI four)] [(hM, .inr (6, [.int (nI rf), .ref x1, .int (nI sz), .ref x3, .ref x4, .ref x5, .int (nI ac), .ref x7, .ref x8, .ref x9, .ref x10, .ref x11, .int (nI sp), .int (nI ou)])), (x9, .inl (eI E, 6, .inl t1)), (x10, .inl (eI E, 6, .inl t2)), (x11, .inl (eI E, 6, .inl t3)), (x4, .inl (eI E, 255, .inl g))] (fun v9 w9 => ∃ ta tb tc g2 : Nat → Int32, v9 = some (.int (nI (cmN σ 1 four))) ∧ w9 = [(hM, .inr (6, [.int (nI rf), .ref x1, .int (nI sz), .ref x3, .ref x4, .ref x5, .int (nI ac), .ref x7, .ref x8, .ref x9, .ref x10, .ref x11, .int (nI sp), .int (nI ou)])), (x9, .inl (eI E, 6, .inl ta)), (x10, .inl (eI E, 6, .inl tb)), (x11, .inl (eI E, 6, .inl tc)), (x4, .inl (eI E, 255, .inl g2))] ∧ RepM (cmS σ 1 four) g2) := by
  have hwP := hW.P
  have hwA := hW.A
  have hwS := hW.S
  have hRb : ∀ p n, p < sP σ → n < 20 → sR σ p n ≤ 10 := fun p n hp hn => Nat.le_trans (hW.R hp hn) hW.A
  refine ct_of (by decide +kernel) (Nat.le_of_ble_eq_true rfl) (fun ω C RT => ?_)
  show ω [(hM, .inr (6, [.int (nI rf), .ref x1, .int (nI sz), .ref x3, .ref x4, .ref x5, .int (nI ac), .ref x7, .ref x8, .ref x9, .ref x10, .ref x11, .int (nI sp), .int (nI ou)])), (x9, .inl (eI E, 6, .inl t1)), (x10, .inl (eI E, 6, .inl t2)), (x11, .inl (eI E, 6, .inl t3)), (x4, .inl (eI E, 255, .inl g))] [(0, .ref hM), (1, .int (nI 1)), (2, .int (nI four))] [] 0
  refine r_iload_n C (i := 2) 2 dX6_command_0 rfl rfl ?_
  refine r_sipush C dX6_command_1 ks_1000 ?_
  refine r_idiv (v := nI (four / 1000)) C dX6_command_4 (v_nz (by omega) (by omega)) (v_div (by omega) (by omega) (by omega)) ?_
  refine r_istore_n C (lv' := [(3, .int (nI (four / 1000))), (0, .ref hM), (1, .int (nI 1)), (2, .int (nI four))]) dX6_command_5 rfl (by decide) rfl ?_
  refine r_iload_n C (i := 2) 3 dX6_command_6 rfl rfl ?_
  refine r_bipush C dX6_command_7 kb_100 ?_
  refine r_idiv (v := nI (four / 100)) C dX6_command_9 (v_nz (by omega) (by omega)) (v_div (by omega) (by omega) (by omega)) ?_
  refine r_istore C (lv' := [(4, .int (nI (four / 100))), (3, .int (nI (four / 1000))), (0, .ref hM), (1, .int (nI 1)), (2, .int (nI four))]) dX6_command_10 (by decide) rfl ?_
  refine r_iload C (i := 4) 0 dX6_command_12 rfl ?_
  refine r_bipush C dX6_command_14 kb_10 ?_
  refine r_irem (v := nI ((four / 100) % 10)) C dX6_command_16 (v_nz (by omega) (by omega)) (v_rem (by omega) (by omega) (by omega)) ?_
  refine r_istore C (lv' := [(5, .int (nI ((four / 100) % 10))), (4, .int (nI (four / 100))), (3, .int (nI (four / 1000))), (0, .ref hM), (1, .int (nI 1)), (2, .int (nI four))]) dX6_command_17 (by decide) rfl ?_
  refine r_iload_n C (i := 2) 5 dX6_command_19 rfl rfl ?_
  refine r_bipush C dX6_command_20 kb_100 ?_
  refine r_irem (v := nI (four % 100)) C dX6_command_22 (v_nz (by omega) (by omega)) (v_rem (by omega) (by omega) (by omega)) ?_
  refine r_istore C (lv' := [(6, .int (nI (four % 100))), (5, .int (nI ((four / 100) % 10))), (4, .int (nI (four / 100))), (3, .int (nI (four / 1000))), (0, .ref hM), (1, .int (nI 1)), (2, .int (nI four))]) dX6_command_23 (by decide) rfl ?_
  refine r_iload_n C (i := 2) 6 dX6_command_25 rfl rfl ?_
  refine r_bipush C dX6_command_26 kb_10 ?_
  refine r_idiv (v := nI (four / 10)) C dX6_command_28 (v_nz (by omega) (by omega)) (v_div (by omega) (by omega) (by omega)) ?_
  refine r_bipush C dX6_command_29 kb_10 ?_
  refine r_irem (v := nI ((four / 10) % 10)) C dX6_command_31 (v_nz (by omega) (by omega)) (v_rem (by omega) (by omega) (by omega)) ?_
  refine r_istore C (lv' := [(7, .int (nI ((four / 10) % 10))), (6, .int (nI (four % 100))), (5, .int (nI ((four / 100) % 10))), (4, .int (nI (four / 100))), (3, .int (nI (four / 1000))), (0, .ref hM), (1, .int (nI 1)), (2, .int (nI four))]) dX6_command_32 (by decide) rfl ?_
  refine r_iload_n C (i := 2) 7 dX6_command_34 rfl rfl ?_
  refine r_bipush C dX6_command_35 kb_10 ?_
  refine r_irem (v := nI (four % 10)) C dX6_command_37 (v_nz (by omega) (by omega)) (v_rem (by omega) (by omega) (by omega)) ?_
  refine r_istore C (lv' := [(8, .int (nI (four % 10))), (7, .int (nI ((four / 10) % 10))), (6, .int (nI (four % 100))), (5, .int (nI ((four / 100) % 10))), (4, .int (nI (four / 100))), (3, .int (nI (four / 1000))), (0, .ref hM), (1, .int (nI 1)), (2, .int (nI four))]) dX6_command_38 (by decide) rfl ?_
  refine r_iload_n C (i := 1) 7 dX6_command_40 rfl rfl ?_
  refine r_tabIn (off := 51) C 92 dX6_command_41 (by decide) (by decide) (by decide) (by decide) ?_
  refine r_aload_n C (i := 0) 6 dX6_command_92 rfl rfl ?_
  refine r_get C 0 4 uX6 rfl rfl (by decide) w_5_65 rfl dX6_command_93 ?_
  refine r_iload_n C (i := 3) 5 dX6_command_96 rfl rfl ?_
  refine r_readS (rest := []) C (c_X6_isPart (r := x4) (g := g) (σ := σ) (i := four / 1000) (hR := hR) (hW := hW) (hi := (by omega))) lk_X6_isPart w_5_151 [4] dX6_command_97 rfl rfl rfl ⟨by decide, by decide⟩ (Nat.le_of_ble_eq_true rfl) (st' := [.int (bP ((four / 1000) < sP σ))]) rfl ?_
  refine r_if_eq C (y := 0) (c9 := ¬ ((four / 1000) < sP σ)) 143 dX6_command_100 (by decide) z_eqB (fun h100_1 => ?_) (fun h100_1 => ?_)
  · refine r_iconst C dX6_command_143 ki_0 ?_
    exact RT.1 _ _ _ _ _ dX6_command_144 rfl nar_0 (⟨_, _, _, _, sv (cm_n (by show ¬ (four / 1000 < sP σ ∧ four % 100 < 20 ∧ four / 100 % 10 + 1 ≤ sA σ); omega)), rfl, by show RepM (tCast σ (four / 1000) (four / 100 % 10 + 1) (four % 100)) _; unfold tCast; rw [if_neg (show ¬ (four / 1000 < sP σ ∧ four % 100 < 20 ∧ four / 100 % 10 + 1 ≤ sA σ) by omega)]; exact hR⟩) rfl
  · replace h100_1 : (four / 1000) < sP σ := Decidable.not_not.mp h100_1
    refine r_aload_n C (i := 0) 6 dX6_command_103 rfl rfl ?_
    refine r_get C 0 4 uX6 rfl rfl (by decide) w_5_65 rfl dX6_command_104 ?_
    refine r_iload C (i := 5) 3 dX6_command_107 rfl ?_
    refine r_readS (rest := []) C (c_X6_isActor (r := x4) (g := g) (σ := σ) (i := (four / 100) % 10) (hR := hR) (hW := hW) (hi := (by omega))) lk_X6_isActor w_5_154 [4] dX6_command_109 rfl rfl rfl ⟨by decide, by decide⟩ (Nat.le_of_ble_eq_true rfl) (st' := [.int (bP (((four / 100) % 10) < sA σ))]) rfl ?_
    refine r_if_eq C (y := 0) (c9 := ¬ (((four / 100) % 10) < sA σ)) 143 dX6_command_112 (by decide) z_eqB (fun h112_2 => ?_) (fun h112_2 => ?_)
    · refine r_iconst C dX6_command_143 ki_0 ?_
      exact RT.1 _ _ _ _ _ dX6_command_144 rfl nar_0 (⟨_, _, _, _, sv (cm_n (by show ¬ (four / 1000 < sP σ ∧ four % 100 < 20 ∧ four / 100 % 10 + 1 ≤ sA σ); omega)), rfl, by show RepM (tCast σ (four / 1000) (four / 100 % 10 + 1) (four % 100)) _; unfold tCast; rw [if_neg (show ¬ (four / 1000 < sP σ ∧ four % 100 < 20 ∧ four / 100 % 10 + 1 ≤ sA σ) by omega)]; exact hR⟩) rfl
    · replace h112_2 : ((four / 100) % 10) < sA σ := Decidable.not_not.mp h112_2
      refine r_iload C (i := 6) 2 dX6_command_115 rfl ?_
      refine r_readS (rest := []) C (c_X6_isNight (i := four % 100) (hi := (by omega))) lk_X6_isNight w_5_185 [] dX6_command_117 rfl rfl rfl ⟨by decide, by decide⟩ (Nat.le_of_ble_eq_true rfl) (st' := [.int (bP ((four % 100) ≤ 19))]) rfl ?_
      refine r_if_eq C (y := 0) (c9 := ¬ ((four % 100) ≤ 19)) 143 dX6_command_120 (by decide) z_eqB (fun h120_3 => ?_) (fun h120_3 => ?_)
      · refine r_iconst C dX6_command_143 ki_0 ?_
        exact RT.1 _ _ _ _ _ dX6_command_144 rfl nar_0 (⟨_, _, _, _, sv (cm_n (by show ¬ (four / 1000 < sP σ ∧ four % 100 < 20 ∧ four / 100 % 10 + 1 ≤ sA σ); omega)), rfl, by show RepM (tCast σ (four / 1000) (four / 100 % 10 + 1) (four % 100)) _; unfold tCast; rw [if_neg (show ¬ (four / 1000 < sP σ ∧ four % 100 < 20 ∧ four / 100 % 10 + 1 ≤ sA σ) by omega)]; exact hR⟩) rfl
      · replace h120_3 : (four % 100) ≤ 19 := Decidable.not_not.mp h120_3
        refine r_aload_n C (i := 0) 6 dX6_command_123 rfl rfl ?_
        refine r_get C 0 4 uX6 rfl rfl (by decide) w_5_65 rfl dX6_command_124 ?_
        refine r_iload_n C (i := 3) 5 dX6_command_127 rfl rfl ?_
        refine r_iload C (i := 5) 3 dX6_command_128 rfl ?_
        refine r_iload C (i := 6) 2 dX6_command_130 rfl ?_
        refine r_callS (rest := []) C (c_X6_castOn__n (r := x4) (g := g) (σ := σ) (p := four / 1000) (a := (four / 100) % 10) (n := four % 100) (hR := hR) (hW := hW) (hp := (by omega)) (hn := (by omega)) (hx := (by omega))) lk_X6_castOn w_5_157 [4] dX6_command_132 rfl rfl rfl ⟨by decide, by decide⟩ (Nat.le_of_ble_eq_true rfl) ?_
        rintro _ _ ⟨g_4, rfl, rfl, hR_5⟩
        have hW_6 : Wf (oCast σ (four / 1000) (((four / 100) % 10) + 1) (four % 100)) := oCast_wf hW (by omega)
        show ω [(hM, .inr (6, [.int (nI rf), .ref x1, .int (nI sz), .ref x3, .ref x4, .ref x5, .int (nI ac), .ref x7, .ref x8, .ref x9, .ref x10, .ref x11, .int (nI sp), .int (nI ou)])), (x9, .inl (eI E, 6, .inl t1)), (x10, .inl (eI E, 6, .inl t2)), (x11, .inl (eI E, 6, .inl t3)), (x4, .inl (eI E, 255, .inl g_4))] [(8, .int (nI (four % 10))), (7, .int (nI ((four / 10) % 10))), (6, .int (nI (four % 100))), (5, .int (nI ((four / 100) % 10))), (4, .int (nI (four / 100))), (3, .int (nI (four / 1000))), (0, .ref hM), (1, .int (nI 1)), (2, .int (nI four))] [.int (mI (sR σ (four / 1000) (four % 100)))] 135
        have hRl := hW.R (show four / 1000 < sP σ by omega) (show four % 100 < 20 by omega)
        refine r_iconst C dX6_command_135 ki_m1 ?_
        refine r_icmp_ltF C (tgt := 143) dX6_command_136 (by decide) (fun z => ((by omega) : ¬ (sR σ (four / 1000) (four % 100) < 0)) ((c_ltMM (by omega) (by omega)).mp z)) ?_
        refine r_iconst C dX6_command_139 ki_1 ?_
        refine r_goto C 144 dX6_command_140 (by decide) ?_
        exact RT.1 _ _ _ _ _ dX6_command_144 rfl nar_1 (⟨_, _, _, _, sv (cm_y (by show four / 1000 < sP σ ∧ four % 100 < 20 ∧ four / 100 % 10 + 1 ≤ sA σ; omega)), rfl, by show RepM (tCast σ (four / 1000) (four / 100 % 10 + 1) (four % 100)) _; unfold tCast; rw [if_pos (show four / 1000 < sP σ ∧ four % 100 < 20 ∧ four / 100 % 10 + 1 ≤ sA σ by omega)]; exact hR_5⟩) rfl
set_option maxRecDepth 100000 in
set_option maxHeartbeats 1000000 in
theorem c_X6_command__2 {l : Launch} {E : Ev} {hM rf x1 sz x3 x4 x5 ac x7 x8 x9 x10 x11 sp ou : Nat} {t1 t2 t3 : Nat → Int32} {g : Nat → Int32} {σ : Sg} (hR : RepM σ g) (hW : Wf σ) {four : Nat} (hf : four < 10000) : Ct l E yX6_command cX6_command 9 (some FieldType.boolean) 5 123 [.ref hM, .int (nI 2), .int (nI four)] [(hM, .inr (6, [.int (nI rf), .ref x1, .int (nI sz), .ref x3, .ref x4, .ref x5, .int (nI ac), .ref x7, .ref x8, .ref x9, .ref x10, .ref x11, .int (nI sp), .int (nI ou)])), (x9, .inl (eI E, 6, .inl t1)), (x10, .inl (eI E, 6, .inl t2)), (x11, .inl (eI E, 6, .inl t3)), (x4, .inl (eI E, 255, .inl g))] (fun v9 w9 => ∃ ta tb tc g2 : Nat → Int32, v9 = some (.int (nI (cmN σ 2 four))) ∧ w9 = [(hM, .inr (6, [.int (nI rf), .ref x1, .int (nI sz), .ref x3, .ref x4, .ref x5, .int (nI ac), .ref x7, .ref x8, .ref x9, .ref x10, .ref x11, .int (nI sp), .int (nI ou)])), (x9, .inl (eI E, 6, .inl ta)), (x10, .inl (eI E, 6, .inl tb)), (x11, .inl (eI E, 6, .inl tc)), (x4, .inl (eI E, 255, .inl g2))] ∧ RepM (cmS σ 2 four) g2) := by
  have hwP := hW.P
  have hwA := hW.A
  have hwS := hW.S
  have hRb : ∀ p n, p < sP σ → n < 20 → sR σ p n ≤ 10 := fun p n hp hn => Nat.le_trans (hW.R hp hn) hW.A
  refine ct_of (by decide +kernel) (Nat.le_of_ble_eq_true rfl) (fun ω C RT => ?_)
  show ω [(hM, .inr (6, [.int (nI rf), .ref x1, .int (nI sz), .ref x3, .ref x4, .ref x5, .int (nI ac), .ref x7, .ref x8, .ref x9, .ref x10, .ref x11, .int (nI sp), .int (nI ou)])), (x9, .inl (eI E, 6, .inl t1)), (x10, .inl (eI E, 6, .inl t2)), (x11, .inl (eI E, 6, .inl t3)), (x4, .inl (eI E, 255, .inl g))] [(0, .ref hM), (1, .int (nI 2)), (2, .int (nI four))] [] 0
  refine r_iload_n C (i := 2) 2 dX6_command_0 rfl rfl ?_
  refine r_sipush C dX6_command_1 ks_1000 ?_
  refine r_idiv (v := nI (four / 1000)) C dX6_command_4 (v_nz (by omega) (by omega)) (v_div (by omega) (by omega) (by omega)) ?_
  refine r_istore_n C (lv' := [(3, .int (nI (four / 1000))), (0, .ref hM), (1, .int (nI 2)), (2, .int (nI four))]) dX6_command_5 rfl (by decide) rfl ?_
  refine r_iload_n C (i := 2) 3 dX6_command_6 rfl rfl ?_
  refine r_bipush C dX6_command_7 kb_100 ?_
  refine r_idiv (v := nI (four / 100)) C dX6_command_9 (v_nz (by omega) (by omega)) (v_div (by omega) (by omega) (by omega)) ?_
  refine r_istore C (lv' := [(4, .int (nI (four / 100))), (3, .int (nI (four / 1000))), (0, .ref hM), (1, .int (nI 2)), (2, .int (nI four))]) dX6_command_10 (by decide) rfl ?_
  refine r_iload C (i := 4) 0 dX6_command_12 rfl ?_
  refine r_bipush C dX6_command_14 kb_10 ?_
  refine r_irem (v := nI ((four / 100) % 10)) C dX6_command_16 (v_nz (by omega) (by omega)) (v_rem (by omega) (by omega) (by omega)) ?_
  refine r_istore C (lv' := [(5, .int (nI ((four / 100) % 10))), (4, .int (nI (four / 100))), (3, .int (nI (four / 1000))), (0, .ref hM), (1, .int (nI 2)), (2, .int (nI four))]) dX6_command_17 (by decide) rfl ?_
  refine r_iload_n C (i := 2) 5 dX6_command_19 rfl rfl ?_
  refine r_bipush C dX6_command_20 kb_100 ?_
  refine r_irem (v := nI (four % 100)) C dX6_command_22 (v_nz (by omega) (by omega)) (v_rem (by omega) (by omega) (by omega)) ?_
  refine r_istore C (lv' := [(6, .int (nI (four % 100))), (5, .int (nI ((four / 100) % 10))), (4, .int (nI (four / 100))), (3, .int (nI (four / 1000))), (0, .ref hM), (1, .int (nI 2)), (2, .int (nI four))]) dX6_command_23 (by decide) rfl ?_
  refine r_iload_n C (i := 2) 6 dX6_command_25 rfl rfl ?_
  refine r_bipush C dX6_command_26 kb_10 ?_
  refine r_idiv (v := nI (four / 10)) C dX6_command_28 (v_nz (by omega) (by omega)) (v_div (by omega) (by omega) (by omega)) ?_
  refine r_bipush C dX6_command_29 kb_10 ?_
  refine r_irem (v := nI ((four / 10) % 10)) C dX6_command_31 (v_nz (by omega) (by omega)) (v_rem (by omega) (by omega) (by omega)) ?_
  refine r_istore C (lv' := [(7, .int (nI ((four / 10) % 10))), (6, .int (nI (four % 100))), (5, .int (nI ((four / 100) % 10))), (4, .int (nI (four / 100))), (3, .int (nI (four / 1000))), (0, .ref hM), (1, .int (nI 2)), (2, .int (nI four))]) dX6_command_32 (by decide) rfl ?_
  refine r_iload_n C (i := 2) 7 dX6_command_34 rfl rfl ?_
  refine r_bipush C dX6_command_35 kb_10 ?_
  refine r_irem (v := nI (four % 10)) C dX6_command_37 (v_nz (by omega) (by omega)) (v_rem (by omega) (by omega) (by omega)) ?_
  refine r_istore C (lv' := [(8, .int (nI (four % 10))), (7, .int (nI ((four / 10) % 10))), (6, .int (nI (four % 100))), (5, .int (nI ((four / 100) % 10))), (4, .int (nI (four / 100))), (3, .int (nI (four / 1000))), (0, .ref hM), (1, .int (nI 2)), (2, .int (nI four))]) dX6_command_38 (by decide) rfl ?_
  refine r_iload_n C (i := 1) 7 dX6_command_40 rfl rfl ?_
  refine r_tabIn (off := 104) C 145 dX6_command_41 (by decide) (by decide) (by decide) (by decide) ?_
  refine r_iload C (i := 6) 2 dX6_command_145 rfl ?_
  refine r_if_ne C (y := 0) (c9 := four % 100 ≠ 0) 180 dX6_command_147 (by decide) (z_neN (by omega)) (fun h147_1 => ?_) (fun h147_1 => ?_)
  · refine r_iconst C dX6_command_180 ki_0 ?_
    exact RT.1 _ _ _ _ _ dX6_command_181 rfl nar_0 (⟨_, _, _, _, sv (cm_n (by show ¬ (four % 100 = 0 ∧ (four / 1000 < sP σ ∧ four / 100 % 10 < sA σ ∧ sC σ (four / 1000) < 4 ∧ rk σ (four / 1000) (four / 100 % 10) = 0)); omega)), rfl, by show RepM (if four % 100 = 0 then tStudy σ (four / 1000) (four / 100 % 10) else σ) _; rw [if_neg (by omega)]; exact hR⟩) rfl
  · refine r_aload_n C (i := 0) 6 dX6_command_150 rfl rfl ?_
    refine r_get C 0 4 uX6 rfl rfl (by decide) w_5_65 rfl dX6_command_151 ?_
    refine r_iload_n C (i := 3) 5 dX6_command_154 rfl rfl ?_
    refine r_iload C (i := 5) 3 dX6_command_155 rfl ?_
    refine r_readS (rest := []) C (c_X6_canStudy (r := x4) (g := g) (σ := σ) (p := four / 1000) (a := (four / 100) % 10) (hR := hR) (hW := hW) (hp := (by omega)) (ha := (by omega))) lk_X6_canStudy w_5_163 [4] dX6_command_157 rfl rfl rfl ⟨by decide, by decide⟩ (Nat.le_of_ble_eq_true rfl) (st' := [.int (bP ((four / 1000) < sP σ ∧ ((four / 100) % 10) < sA σ ∧ sC σ (four / 1000) < 4 ∧ rk σ (four / 1000) ((four / 100) % 10) = 0))]) rfl ?_
    refine r_if_eq C (y := 0) (c9 := ¬ ((four / 1000) < sP σ ∧ ((four / 100) % 10) < sA σ ∧ sC σ (four / 1000) < 4 ∧ rk σ (four / 1000) ((four / 100) % 10) = 0)) 180 dX6_command_160 (by decide) z_eqB (fun h160_2 => ?_) (fun h160_2 => ?_)
    · refine r_iconst C dX6_command_180 ki_0 ?_
      exact RT.1 _ _ _ _ _ dX6_command_181 rfl nar_0 (⟨_, _, _, _, sv (cm_n (by show ¬ (four % 100 = 0 ∧ (four / 1000 < sP σ ∧ four / 100 % 10 < sA σ ∧ sC σ (four / 1000) < 4 ∧ rk σ (four / 1000) (four / 100 % 10) = 0)); omega)), rfl, by show RepM (if four % 100 = 0 then tStudy σ (four / 1000) (four / 100 % 10) else σ) _; rw [if_pos (by omega)]; unfold tStudy; rw [if_neg (show ¬ (four / 1000 < sP σ ∧ four / 100 % 10 < sA σ ∧ sC σ (four / 1000) < 4 ∧ rk σ (four / 1000) (four / 100 % 10) = 0) by omega)]; exact hR⟩) rfl
    · replace h160_2 : (four / 1000) < sP σ ∧ ((four / 100) % 10) < sA σ ∧ sC σ (four / 1000) < 4 ∧ rk σ (four / 1000) ((four / 100) % 10) = 0 := Decidable.not_not.mp h160_2
      refine r_aload_n C (i := 0) 6 dX6_command_163 rfl rfl ?_
      refine r_get C 0 4 uX6 rfl rfl (by decide) w_5_65 rfl dX6_command_164 ?_
      refine r_iload_n C (i := 3) 5 dX6_command_167 rfl rfl ?_
      refine r_iload C (i := 5) 3 dX6_command_168 rfl ?_
      refine r_callS (rest := []) C (c_X6_studyOn (r := x4) (g := g) (σ := σ) (p := four / 1000) (a := (four / 100) % 10) (hR := hR) (hW := hW) (hp := (by omega)) (ha := (by omega)) (hC := (by omega))) lk_X6_studyOn w_5_169 [4] dX6_command_170 rfl rfl rfl ⟨by decide, by decide⟩ (Nat.le_of_ble_eq_true rfl) ?_
      rintro _ _ ⟨g_3, rfl, rfl, hR_4⟩
      have hW_5 : Wf (oStudy σ (four / 1000) ((four / 100) % 10)) := oStudy_wf hW (by omega) (by omega)
      show ω [(hM, .inr (6, [.int (nI rf), .ref x1, .int (nI sz), .ref x3, .ref x4, .ref x5, .int (nI ac), .ref x7, .ref x8, .ref x9, .ref x10, .ref x11, .int (nI sp), .int (nI ou)])), (x9, .inl (eI E, 6, .inl t1)), (x10, .inl (eI E, 6, .inl t2)), (x11, .inl (eI E, 6, .inl t3)), (x4, .inl (eI E, 255, .inl g_3))] [(8, .int (nI (four % 10))), (7, .int (nI ((four / 10) % 10))), (6, .int (nI (four % 100))), (5, .int (nI ((four / 100) % 10))), (4, .int (nI (four / 100))), (3, .int (nI (four / 1000))), (0, .ref hM), (1, .int (nI 2)), (2, .int (nI four))] [.int (nI (sC σ (four / 1000) + 1))] 173
      refine r_if_leF C (y := 0) (tgt := 180) dX6_command_173 (by decide) (fun z => ((by omega) : ¬ (sC σ (four / 1000) + 1 = 0)) ((z_leN (by omega)).mp z)) ?_
      refine r_iconst C dX6_command_176 ki_1 ?_
      refine r_goto C 181 dX6_command_177 (by decide) ?_
      exact RT.1 _ _ _ _ _ dX6_command_181 rfl nar_1 (⟨_, _, _, _, sv (cm_y (by show four % 100 = 0 ∧ (four / 1000 < sP σ ∧ four / 100 % 10 < sA σ ∧ sC σ (four / 1000) < 4 ∧ rk σ (four / 1000) (four / 100 % 10) = 0); omega)), rfl, by show RepM (if four % 100 = 0 then tStudy σ (four / 1000) (four / 100 % 10) else σ) _; rw [if_pos (by omega)]; unfold tStudy; rw [if_pos (show four / 1000 < sP σ ∧ four / 100 % 10 < sA σ ∧ sC σ (four / 1000) < 4 ∧ rk σ (four / 1000) (four / 100 % 10) = 0 by omega)]; exact hR_4⟩) rfl
set_option maxRecDepth 100000 in
set_option maxHeartbeats 1000000 in
theorem c_X6_command__3 {l : Launch} {E : Ev} {hM rf x1 sz x3 x4 x5 ac x7 x8 x9 x10 x11 sp ou : Nat} {t1 t2 t3 : Nat → Int32} {g : Nat → Int32} {σ : Sg} (hR : RepM σ g) (hW : Wf σ) {four : Nat} (hf : four < 10000) : Ct l E yX6_command cX6_command 9 (some FieldType.boolean) 5 123 [.ref hM, .int (nI 3), .int (nI four)] [(hM, .inr (6, [.int (nI rf), .ref x1, .int (nI sz), .ref x3, .ref x4, .ref x5, .int (nI ac), .ref x7, .ref x8, .ref x9, .ref x10, .ref x11, .int (nI sp), .int (nI ou)])), (x9, .inl (eI E, 6, .inl t1)), (x10, .inl (eI E, 6, .inl t2)), (x11, .inl (eI E, 6, .inl t3)), (x4, .inl (eI E, 255, .inl g))] (fun v9 w9 => ∃ ta tb tc g2 : Nat → Int32, v9 = some (.int (nI (cmN σ 3 four))) ∧ w9 = [(hM, .inr (6, [.int (nI rf), .ref x1, .int (nI sz), .ref x3, .ref x4, .ref x5, .int (nI ac), .ref x7, .ref x8, .ref x9, .ref x10, .ref x11, .int (nI sp), .int (nI ou)])), (x9, .inl (eI E, 6, .inl ta)), (x10, .inl (eI E, 6, .inl tb)), (x11, .inl (eI E, 6, .inl tc)), (x4, .inl (eI E, 255, .inl g2))] ∧ RepM (cmS σ 3 four) g2) := by
  have hwP := hW.P
  have hwA := hW.A
  have hwS := hW.S
  have hRb : ∀ p n, p < sP σ → n < 20 → sR σ p n ≤ 10 := fun p n hp hn => Nat.le_trans (hW.R hp hn) hW.A
  refine ct_of (by decide +kernel) (Nat.le_of_ble_eq_true rfl) (fun ω C RT => ?_)
  show ω [(hM, .inr (6, [.int (nI rf), .ref x1, .int (nI sz), .ref x3, .ref x4, .ref x5, .int (nI ac), .ref x7, .ref x8, .ref x9, .ref x10, .ref x11, .int (nI sp), .int (nI ou)])), (x9, .inl (eI E, 6, .inl t1)), (x10, .inl (eI E, 6, .inl t2)), (x11, .inl (eI E, 6, .inl t3)), (x4, .inl (eI E, 255, .inl g))] [(0, .ref hM), (1, .int (nI 3)), (2, .int (nI four))] [] 0
  refine r_iload_n C (i := 2) 2 dX6_command_0 rfl rfl ?_
  refine r_sipush C dX6_command_1 ks_1000 ?_
  refine r_idiv (v := nI (four / 1000)) C dX6_command_4 (v_nz (by omega) (by omega)) (v_div (by omega) (by omega) (by omega)) ?_
  refine r_istore_n C (lv' := [(3, .int (nI (four / 1000))), (0, .ref hM), (1, .int (nI 3)), (2, .int (nI four))]) dX6_command_5 rfl (by decide) rfl ?_
  refine r_iload_n C (i := 2) 3 dX6_command_6 rfl rfl ?_
  refine r_bipush C dX6_command_7 kb_100 ?_
  refine r_idiv (v := nI (four / 100)) C dX6_command_9 (v_nz (by omega) (by omega)) (v_div (by omega) (by omega) (by omega)) ?_
  refine r_istore C (lv' := [(4, .int (nI (four / 100))), (3, .int (nI (four / 1000))), (0, .ref hM), (1, .int (nI 3)), (2, .int (nI four))]) dX6_command_10 (by decide) rfl ?_
  refine r_iload C (i := 4) 0 dX6_command_12 rfl ?_
  refine r_bipush C dX6_command_14 kb_10 ?_
  refine r_irem (v := nI ((four / 100) % 10)) C dX6_command_16 (v_nz (by omega) (by omega)) (v_rem (by omega) (by omega) (by omega)) ?_
  refine r_istore C (lv' := [(5, .int (nI ((four / 100) % 10))), (4, .int (nI (four / 100))), (3, .int (nI (four / 1000))), (0, .ref hM), (1, .int (nI 3)), (2, .int (nI four))]) dX6_command_17 (by decide) rfl ?_
  refine r_iload_n C (i := 2) 5 dX6_command_19 rfl rfl ?_
  refine r_bipush C dX6_command_20 kb_100 ?_
  refine r_irem (v := nI (four % 100)) C dX6_command_22 (v_nz (by omega) (by omega)) (v_rem (by omega) (by omega) (by omega)) ?_
  refine r_istore C (lv' := [(6, .int (nI (four % 100))), (5, .int (nI ((four / 100) % 10))), (4, .int (nI (four / 100))), (3, .int (nI (four / 1000))), (0, .ref hM), (1, .int (nI 3)), (2, .int (nI four))]) dX6_command_23 (by decide) rfl ?_
  refine r_iload_n C (i := 2) 6 dX6_command_25 rfl rfl ?_
  refine r_bipush C dX6_command_26 kb_10 ?_
  refine r_idiv (v := nI (four / 10)) C dX6_command_28 (v_nz (by omega) (by omega)) (v_div (by omega) (by omega) (by omega)) ?_
  refine r_bipush C dX6_command_29 kb_10 ?_
  refine r_irem (v := nI ((four / 10) % 10)) C dX6_command_31 (v_nz (by omega) (by omega)) (v_rem (by omega) (by omega) (by omega)) ?_
  refine r_istore C (lv' := [(7, .int (nI ((four / 10) % 10))), (6, .int (nI (four % 100))), (5, .int (nI ((four / 100) % 10))), (4, .int (nI (four / 100))), (3, .int (nI (four / 1000))), (0, .ref hM), (1, .int (nI 3)), (2, .int (nI four))]) dX6_command_32 (by decide) rfl ?_
  refine r_iload_n C (i := 2) 7 dX6_command_34 rfl rfl ?_
  refine r_bipush C dX6_command_35 kb_10 ?_
  refine r_irem (v := nI (four % 10)) C dX6_command_37 (v_nz (by omega) (by omega)) (v_rem (by omega) (by omega) (by omega)) ?_
  refine r_istore C (lv' := [(8, .int (nI (four % 10))), (7, .int (nI ((four / 10) % 10))), (6, .int (nI (four % 100))), (5, .int (nI ((four / 100) % 10))), (4, .int (nI (four / 100))), (3, .int (nI (four / 1000))), (0, .ref hM), (1, .int (nI 3)), (2, .int (nI four))]) dX6_command_38 (by decide) rfl ?_
  refine r_iload_n C (i := 1) 7 dX6_command_40 rfl rfl ?_
  refine r_tabIn (off := 141) C 182 dX6_command_41 (by decide) (by decide) (by decide) (by decide) ?_
  refine r_iload C (i := 6) 2 dX6_command_182 rfl ?_
  refine r_if_ne C (y := 0) (c9 := four % 100 ≠ 0) 241 dX6_command_184 (by decide) (z_neN (by omega)) (fun h184_1 => ?_) (fun h184_1 => ?_)
  · refine r_iconst C dX6_command_241 ki_0 ?_
    exact RT.1 _ _ _ _ _ dX6_command_242 rfl nar_0 (⟨_, _, _, _, sv (cm_n (by show ¬ (four % 100 = 0 ∧ (four / 1000 < sP σ ∧ four / 100 % 10 < sA σ ∧ rk σ (four / 1000) (four / 100 % 10) ≠ 0)); omega)), rfl, by show RepM (if four % 100 = 0 then tRel σ (four / 1000) (four / 100 % 10) else σ) _; rw [if_neg (by omega)]; exact hR⟩) rfl
  · refine r_aload_n C (i := 0) 6 dX6_command_187 rfl rfl ?_
    refine r_get C 0 4 uX6 rfl rfl (by decide) w_5_65 rfl dX6_command_188 ?_
    refine r_iload_n C (i := 3) 5 dX6_command_191 rfl rfl ?_
    refine r_readS (rest := []) C (c_X6_isPart (r := x4) (g := g) (σ := σ) (i := four / 1000) (hR := hR) (hW := hW) (hi := (by omega))) lk_X6_isPart w_5_151 [4] dX6_command_192 rfl rfl rfl ⟨by decide, by decide⟩ (Nat.le_of_ble_eq_true rfl) (st' := [.int (bP ((four / 1000) < sP σ))]) rfl ?_
    refine r_if_eq C (y := 0) (c9 := ¬ ((four / 1000) < sP σ)) 241 dX6_command_195 (by decide) z_eqB (fun h195_2 => ?_) (fun h195_2 => ?_)
    · refine r_iconst C dX6_command_241 ki_0 ?_
      exact RT.1 _ _ _ _ _ dX6_command_242 rfl nar_0 (⟨_, _, _, _, sv (cm_n (by show ¬ (four % 100 = 0 ∧ (four / 1000 < sP σ ∧ four / 100 % 10 < sA σ ∧ rk σ (four / 1000) (four / 100 % 10) ≠ 0)); omega)), rfl, by show RepM (if four % 100 = 0 then tRel σ (four / 1000) (four / 100 % 10) else σ) _; rw [if_pos (by omega)]; unfold tRel; rw [if_neg (show ¬ (four / 1000 < sP σ ∧ four / 100 % 10 < sA σ ∧ rk σ (four / 1000) (four / 100 % 10) ≠ 0) by omega)]; exact hR⟩) rfl
    · replace h195_2 : (four / 1000) < sP σ := Decidable.not_not.mp h195_2
      refine r_aload_n C (i := 0) 6 dX6_command_198 rfl rfl ?_
      refine r_get C 0 4 uX6 rfl rfl (by decide) w_5_65 rfl dX6_command_199 ?_
      refine r_iload C (i := 5) 3 dX6_command_202 rfl ?_
      refine r_readS (rest := []) C (c_X6_isActor (r := x4) (g := g) (σ := σ) (i := (four / 100) % 10) (hR := hR) (hW := hW) (hi := (by omega))) lk_X6_isActor w_5_154 [4] dX6_command_204 rfl rfl rfl ⟨by decide, by decide⟩ (Nat.le_of_ble_eq_true rfl) (st' := [.int (bP (((four / 100) % 10) < sA σ))]) rfl ?_
      refine r_if_eq C (y := 0) (c9 := ¬ (((four / 100) % 10) < sA σ)) 241 dX6_command_207 (by decide) z_eqB (fun h207_3 => ?_) (fun h207_3 => ?_)
      · refine r_iconst C dX6_command_241 ki_0 ?_
        exact RT.1 _ _ _ _ _ dX6_command_242 rfl nar_0 (⟨_, _, _, _, sv (cm_n (by show ¬ (four % 100 = 0 ∧ (four / 1000 < sP σ ∧ four / 100 % 10 < sA σ ∧ rk σ (four / 1000) (four / 100 % 10) ≠ 0)); omega)), rfl, by show RepM (if four % 100 = 0 then tRel σ (four / 1000) (four / 100 % 10) else σ) _; rw [if_pos (by omega)]; unfold tRel; rw [if_neg (show ¬ (four / 1000 < sP σ ∧ four / 100 % 10 < sA σ ∧ rk σ (four / 1000) (four / 100 % 10) ≠ 0) by omega)]; exact hR⟩) rfl
      · replace h207_3 : ((four / 100) % 10) < sA σ := Decidable.not_not.mp h207_3
        refine r_aload_n C (i := 0) 6 dX6_command_210 rfl rfl ?_
        refine r_get C 0 4 uX6 rfl rfl (by decide) w_5_65 rfl dX6_command_211 ?_
        refine r_iload_n C (i := 3) 5 dX6_command_214 rfl rfl ?_
        refine r_iload C (i := 5) 3 dX6_command_215 rfl ?_
        have hrl0 := rk_le σ (four / 1000) (four / 100 % 10)
        have hCl0 := hW.C (show four / 1000 < sP σ by omega)
        refine r_readS (rest := []) C (c_X6_rankOf (r := x4) (g := g) (σ := σ) (p := four / 1000) (a := (four / 100) % 10) (hR := hR) (hW := hW) (hp := (by omega)) (ha := (by omega))) lk_X6_rankOf w_5_166 [4] dX6_command_217 rfl rfl rfl ⟨by decide, by decide⟩ (Nat.le_of_ble_eq_true rfl) (st' := [.int (mI (rk σ (four / 1000) ((four / 100) % 10)))]) rfl ?_
        refine r_iconst C dX6_command_220 ki_m1 ?_
        refine r_icmp_eq C (c9 := rk σ (four / 1000) ((four / 100) % 10) = 0) 241 dX6_command_221 (by decide) (c_eqMM (by omega) (by omega)) (fun h221_4 => ?_) (fun h221_4 => ?_)
        · refine r_iconst C dX6_command_241 ki_0 ?_
          exact RT.1 _ _ _ _ _ dX6_command_242 rfl nar_0 (⟨_, _, _, _, sv (cm_n (by show ¬ (four % 100 = 0 ∧ (four / 1000 < sP σ ∧ four / 100 % 10 < sA σ ∧ rk σ (four / 1000) (four / 100 % 10) ≠ 0)); omega)), rfl, by show RepM (if four % 100 = 0 then tRel σ (four / 1000) (four / 100 % 10) else σ) _; rw [if_pos (by omega)]; unfold tRel; rw [if_neg (show ¬ (four / 1000 < sP σ ∧ four / 100 % 10 < sA σ ∧ rk σ (four / 1000) (four / 100 % 10) ≠ 0) by omega)]; exact hR⟩) rfl
        · refine r_aload_n C (i := 0) 6 dX6_command_224 rfl rfl ?_
          refine r_get C 0 4 uX6 rfl rfl (by decide) w_5_65 rfl dX6_command_225 ?_
          refine r_iload_n C (i := 3) 5 dX6_command_228 rfl rfl ?_
          refine r_iload C (i := 5) 3 dX6_command_229 rfl ?_
          have hrl := rk_le σ (four / 1000) (four / 100 % 10)
          have hCl := hW.C (show four / 1000 < sP σ by omega)
          refine r_callS (rest := []) C (c_X6_releaseOn (r := x4) (g := g) (σ := σ) (p := four / 1000) (a := (four / 100) % 10) (hR := hR) (hW := hW) (hp := (by omega)) (ha := (by omega)) (hrk := (by omega))) lk_X6_releaseOn w_6_74 [4] dX6_command_231 rfl rfl rfl ⟨by decide, by decide⟩ (Nat.le_of_ble_eq_true rfl) ?_
          rintro _ _ ⟨g_5, rfl, rfl, hR_6⟩
          have hW_7 : Wf (oRel σ (four / 1000) (rk σ (four / 1000) ((four / 100) % 10) - 1)) := oRel_wf hW
          show ω [(hM, .inr (6, [.int (nI rf), .ref x1, .int (nI sz), .ref x3, .ref x4, .ref x5, .int (nI ac), .ref x7, .ref x8, .ref x9, .ref x10, .ref x11, .int (nI sp), .int (nI ou)])), (x9, .inl (eI E, 6, .inl t1)), (x10, .inl (eI E, 6, .inl t2)), (x11, .inl (eI E, 6, .inl t3)), (x4, .inl (eI E, 255, .inl g_5))] [(8, .int (nI (four % 10))), (7, .int (nI ((four / 10) % 10))), (6, .int (nI (four % 100))), (5, .int (nI ((four / 100) % 10))), (4, .int (nI (four / 100))), (3, .int (nI (four / 1000))), (0, .ref hM), (1, .int (nI 3)), (2, .int (nI four))] [.int (nI (rk σ (four / 1000) ((four / 100) % 10) - 1))] 234
          refine r_if_ltF C (y := 0) (tgt := 241) dX6_command_234 (by decide) (fun z => ((by omega) : ¬ (rk σ (four / 1000) ((four / 100) % 10) - 1 < 0)) ((z_ltN (by omega)).mp z)) ?_
          refine r_iconst C dX6_command_237 ki_1 ?_
          refine r_goto C 242 dX6_command_238 (by decide) ?_
          exact RT.1 _ _ _ _ _ dX6_command_242 rfl nar_1 (⟨_, _, _, _, sv (cm_y (by show four % 100 = 0 ∧ (four / 1000 < sP σ ∧ four / 100 % 10 < sA σ ∧ rk σ (four / 1000) (four / 100 % 10) ≠ 0); omega)), rfl, by show RepM (if four % 100 = 0 then tRel σ (four / 1000) (four / 100 % 10) else σ) _; rw [if_pos (by omega)]; unfold tRel; rw [if_pos (show four / 1000 < sP σ ∧ four / 100 % 10 < sA σ ∧ rk σ (four / 1000) (four / 100 % 10) ≠ 0 by omega)]; exact hR_6⟩) rfl
set_option maxRecDepth 100000 in
set_option maxHeartbeats 1000000 in
theorem c_X6_command__4 {l : Launch} {E : Ev} {hM rf x1 sz x3 x4 x5 ac x7 x8 x9 x10 x11 sp ou : Nat} {t1 t2 t3 : Nat → Int32} {g : Nat → Int32} {σ : Sg} (hR : RepM σ g) (hW : Wf σ) {four : Nat} (hf : four < 10000) : Ct l E yX6_command cX6_command 9 (some FieldType.boolean) 5 123 [.ref hM, .int (nI 4), .int (nI four)] [(hM, .inr (6, [.int (nI rf), .ref x1, .int (nI sz), .ref x3, .ref x4, .ref x5, .int (nI ac), .ref x7, .ref x8, .ref x9, .ref x10, .ref x11, .int (nI sp), .int (nI ou)])), (x9, .inl (eI E, 6, .inl t1)), (x10, .inl (eI E, 6, .inl t2)), (x11, .inl (eI E, 6, .inl t3)), (x4, .inl (eI E, 255, .inl g))] (fun v9 w9 => ∃ ta tb tc g2 : Nat → Int32, v9 = some (.int (nI (cmN σ 4 four))) ∧ w9 = [(hM, .inr (6, [.int (nI rf), .ref x1, .int (nI sz), .ref x3, .ref x4, .ref x5, .int (nI ac), .ref x7, .ref x8, .ref x9, .ref x10, .ref x11, .int (nI sp), .int (nI ou)])), (x9, .inl (eI E, 6, .inl ta)), (x10, .inl (eI E, 6, .inl tb)), (x11, .inl (eI E, 6, .inl tc)), (x4, .inl (eI E, 255, .inl g2))] ∧ RepM (cmS σ 4 four) g2) := by
  have hwP := hW.P
  have hwA := hW.A
  have hwS := hW.S
  have hRb : ∀ p n, p < sP σ → n < 20 → sR σ p n ≤ 10 := fun p n hp hn => Nat.le_trans (hW.R hp hn) hW.A
  refine ct_of (by decide +kernel) (Nat.le_of_ble_eq_true rfl) (fun ω C RT => ?_)
  show ω [(hM, .inr (6, [.int (nI rf), .ref x1, .int (nI sz), .ref x3, .ref x4, .ref x5, .int (nI ac), .ref x7, .ref x8, .ref x9, .ref x10, .ref x11, .int (nI sp), .int (nI ou)])), (x9, .inl (eI E, 6, .inl t1)), (x10, .inl (eI E, 6, .inl t2)), (x11, .inl (eI E, 6, .inl t3)), (x4, .inl (eI E, 255, .inl g))] [(0, .ref hM), (1, .int (nI 4)), (2, .int (nI four))] [] 0
  refine r_iload_n C (i := 2) 2 dX6_command_0 rfl rfl ?_
  refine r_sipush C dX6_command_1 ks_1000 ?_
  refine r_idiv (v := nI (four / 1000)) C dX6_command_4 (v_nz (by omega) (by omega)) (v_div (by omega) (by omega) (by omega)) ?_
  refine r_istore_n C (lv' := [(3, .int (nI (four / 1000))), (0, .ref hM), (1, .int (nI 4)), (2, .int (nI four))]) dX6_command_5 rfl (by decide) rfl ?_
  refine r_iload_n C (i := 2) 3 dX6_command_6 rfl rfl ?_
  refine r_bipush C dX6_command_7 kb_100 ?_
  refine r_idiv (v := nI (four / 100)) C dX6_command_9 (v_nz (by omega) (by omega)) (v_div (by omega) (by omega) (by omega)) ?_
  refine r_istore C (lv' := [(4, .int (nI (four / 100))), (3, .int (nI (four / 1000))), (0, .ref hM), (1, .int (nI 4)), (2, .int (nI four))]) dX6_command_10 (by decide) rfl ?_
  refine r_iload C (i := 4) 0 dX6_command_12 rfl ?_
  refine r_bipush C dX6_command_14 kb_10 ?_
  refine r_irem (v := nI ((four / 100) % 10)) C dX6_command_16 (v_nz (by omega) (by omega)) (v_rem (by omega) (by omega) (by omega)) ?_
  refine r_istore C (lv' := [(5, .int (nI ((four / 100) % 10))), (4, .int (nI (four / 100))), (3, .int (nI (four / 1000))), (0, .ref hM), (1, .int (nI 4)), (2, .int (nI four))]) dX6_command_17 (by decide) rfl ?_
  refine r_iload_n C (i := 2) 5 dX6_command_19 rfl rfl ?_
  refine r_bipush C dX6_command_20 kb_100 ?_
  refine r_irem (v := nI (four % 100)) C dX6_command_22 (v_nz (by omega) (by omega)) (v_rem (by omega) (by omega) (by omega)) ?_
  refine r_istore C (lv' := [(6, .int (nI (four % 100))), (5, .int (nI ((four / 100) % 10))), (4, .int (nI (four / 100))), (3, .int (nI (four / 1000))), (0, .ref hM), (1, .int (nI 4)), (2, .int (nI four))]) dX6_command_23 (by decide) rfl ?_
  refine r_iload_n C (i := 2) 6 dX6_command_25 rfl rfl ?_
  refine r_bipush C dX6_command_26 kb_10 ?_
  refine r_idiv (v := nI (four / 10)) C dX6_command_28 (v_nz (by omega) (by omega)) (v_div (by omega) (by omega) (by omega)) ?_
  refine r_bipush C dX6_command_29 kb_10 ?_
  refine r_irem (v := nI ((four / 10) % 10)) C dX6_command_31 (v_nz (by omega) (by omega)) (v_rem (by omega) (by omega) (by omega)) ?_
  refine r_istore C (lv' := [(7, .int (nI ((four / 10) % 10))), (6, .int (nI (four % 100))), (5, .int (nI ((four / 100) % 10))), (4, .int (nI (four / 100))), (3, .int (nI (four / 1000))), (0, .ref hM), (1, .int (nI 4)), (2, .int (nI four))]) dX6_command_32 (by decide) rfl ?_
  refine r_iload_n C (i := 2) 7 dX6_command_34 rfl rfl ?_
  refine r_bipush C dX6_command_35 kb_10 ?_
  refine r_irem (v := nI (four % 10)) C dX6_command_37 (v_nz (by omega) (by omega)) (v_rem (by omega) (by omega) (by omega)) ?_
  refine r_istore C (lv' := [(8, .int (nI (four % 10))), (7, .int (nI ((four / 10) % 10))), (6, .int (nI (four % 100))), (5, .int (nI ((four / 100) % 10))), (4, .int (nI (four / 100))), (3, .int (nI (four / 1000))), (0, .ref hM), (1, .int (nI 4)), (2, .int (nI four))]) dX6_command_38 (by decide) rfl ?_
  refine r_iload_n C (i := 1) 7 dX6_command_40 rfl rfl ?_
  refine r_tabIn (off := 202) C 243 dX6_command_41 (by decide) (by decide) (by decide) (by decide) ?_
  refine r_iload C (i := 8) 0 dX6_command_243 rfl ?_
  refine r_iconst C dX6_command_245 ki_2 ?_
  refine r_icmp_ge C (c9 := 2 ≤ four % 10) 306 dX6_command_246 (by decide) (c_leNN (by omega) (by omega)) (fun h246_1 => ?_) (fun h246_1 => ?_)
  · refine r_iconst C dX6_command_306 ki_0 ?_
    exact RT.1 _ _ _ _ _ dX6_command_307 rfl nar_0 (⟨_, _, _, _, sv (cm_n (by show ¬ (four % 10 < 2 ∧ (four / 1000 < sA σ ∧ four / 10 % 100 < 20)); omega)), rfl, by show RepM (if four % 10 < 2 then tIll σ (four / 1000) (four / 10 % 100) (four % 10) else σ) _; rw [if_neg (by omega)]; exact hR⟩) rfl
  · refine r_aload_n C (i := 0) 6 dX6_command_249 rfl rfl ?_
    refine r_get C 0 4 uX6 rfl rfl (by decide) w_5_65 rfl dX6_command_250 ?_
    refine r_iload_n C (i := 3) 5 dX6_command_253 rfl rfl ?_
    refine r_readS (rest := []) C (c_X6_isActor (r := x4) (g := g) (σ := σ) (i := four / 1000) (hR := hR) (hW := hW) (hi := (by omega))) lk_X6_isActor w_5_154 [4] dX6_command_254 rfl rfl rfl ⟨by decide, by decide⟩ (Nat.le_of_ble_eq_true rfl) (st' := [.int (bP ((four / 1000) < sA σ))]) rfl ?_
    refine r_if_eq C (y := 0) (c9 := ¬ ((four / 1000) < sA σ)) 306 dX6_command_257 (by decide) z_eqB (fun h257_2 => ?_) (fun h257_2 => ?_)
    · refine r_iconst C dX6_command_306 ki_0 ?_
      exact RT.1 _ _ _ _ _ dX6_command_307 rfl nar_0 (⟨_, _, _, _, sv (cm_n (by show ¬ (four % 10 < 2 ∧ (four / 1000 < sA σ ∧ four / 10 % 100 < 20)); omega)), rfl, by show RepM (if four % 10 < 2 then tIll σ (four / 1000) (four / 10 % 100) (four % 10) else σ) _; rw [if_pos (by omega)]; unfold tIll; rw [if_neg (show ¬ (four / 1000 < sA σ ∧ four / 10 % 100 < 20) by omega)]; exact hR⟩) rfl
    · replace h257_2 : (four / 1000) < sA σ := Decidable.not_not.mp h257_2
      refine r_iload_n C (i := 2) 8 dX6_command_260 rfl rfl ?_
      refine r_bipush C dX6_command_261 kb_10 ?_
      refine r_idiv (v := nI (four / 10)) C dX6_command_263 (v_nz (by omega) (by omega)) (v_div (by omega) (by omega) (by omega)) ?_
      refine r_bipush C dX6_command_264 kb_100 ?_
      refine r_irem (v := nI ((four / 10) % 100)) C dX6_command_266 (v_nz (by omega) (by omega)) (v_rem (by omega) (by omega) (by omega)) ?_
      refine r_readS (rest := []) C (c_X6_isNight (i := (four / 10) % 100) (hi := (by omega))) lk_X6_isNight w_5_185 [] dX6_command_267 rfl rfl rfl ⟨by decide, by decide⟩ (Nat.le_of_ble_eq_true rfl) (st' := [.int (bP (((four / 10) % 100) ≤ 19))]) rfl ?_
      refine r_if_eq C (y := 0) (c9 := ¬ (((four / 10) % 100) ≤ 19)) 306 dX6_command_270 (by decide) z_eqB (fun h270_3 => ?_) (fun h270_3 => ?_)
      · refine r_iconst C dX6_command_306 ki_0 ?_
        exact RT.1 _ _ _ _ _ dX6_command_307 rfl nar_0 (⟨_, _, _, _, sv (cm_n (by show ¬ (four % 10 < 2 ∧ (four / 1000 < sA σ ∧ four / 10 % 100 < 20)); omega)), rfl, by show RepM (if four % 10 < 2 then tIll σ (four / 1000) (four / 10 % 100) (four % 10) else σ) _; rw [if_pos (by omega)]; unfold tIll; rw [if_neg (show ¬ (four / 1000 < sA σ ∧ four / 10 % 100 < 20) by omega)]; exact hR⟩) rfl
      · replace h270_3 : ((four / 10) % 100) ≤ 19 := Decidable.not_not.mp h270_3
        refine r_aload_n C (i := 0) 6 dX6_command_273 rfl rfl ?_
        refine r_get C 0 4 uX6 rfl rfl (by decide) w_5_65 rfl dX6_command_274 ?_
        refine r_iload_n C (i := 3) 5 dX6_command_277 rfl rfl ?_
        refine r_iload_n C (i := 2) 8 dX6_command_278 rfl rfl ?_
        refine r_bipush C dX6_command_279 kb_10 ?_
        refine r_idiv (v := nI (four / 10)) C dX6_command_281 (v_nz (by omega) (by omega)) (v_div (by omega) (by omega) (by omega)) ?_
        refine r_bipush C dX6_command_282 kb_100 ?_
        refine r_irem (v := nI ((four / 10) % 100)) C dX6_command_284 (v_nz (by omega) (by omega)) (v_rem (by omega) (by omega) (by omega)) ?_
        refine r_iload C (i := 8) 0 dX6_command_285 rfl ?_
        refine r_iconst C dX6_command_287 ki_1 ?_
        refine r_icmp_ne C (c9 := four % 10 ≠ 1) 295 dX6_command_288 (by decide) (c_neNN (by omega) (by omega)) (fun h288_4 => ?_) (fun h288_4 => ?_)
        · refine r_iconst C dX6_command_295 ki_0 ?_
          refine r_callS (rest := []) C (c_X6_illOn (r := x4) (g := g) (σ := σ) (a := four / 1000) (n := (four / 10) % 100) (b := 0) (hR := hR) (hW := hW) (ha := (by omega)) (hn := (by omega)) (hb := (by omega))) lk_X6_illOn w_5_172 [4] dX6_command_296 rfl rfl rfl ⟨by decide, by decide⟩ (Nat.le_of_ble_eq_true rfl) ?_
          rintro _ _ ⟨g_5, rfl, rfl, hR_6⟩
          have hW_7 : Wf (oIll σ (four / 1000) ((four / 10) % 100) 0) := oIll_wf hW (by omega) (by omega)
          show ω [(hM, .inr (6, [.int (nI rf), .ref x1, .int (nI sz), .ref x3, .ref x4, .ref x5, .int (nI ac), .ref x7, .ref x8, .ref x9, .ref x10, .ref x11, .int (nI sp), .int (nI ou)])), (x9, .inl (eI E, 6, .inl t1)), (x10, .inl (eI E, 6, .inl t2)), (x11, .inl (eI E, 6, .inl t3)), (x4, .inl (eI E, 255, .inl g_5))] [(8, .int (nI (four % 10))), (7, .int (nI ((four / 10) % 10))), (6, .int (nI (four % 100))), (5, .int (nI ((four / 100) % 10))), (4, .int (nI (four / 100))), (3, .int (nI (four / 1000))), (0, .ref hM), (1, .int (nI 4)), (2, .int (nI four))] [.int (nI (cntI (oIll σ (four / 1000) ((four / 10) % 100) 0) (four / 1000) 20))] 299
          have hcl := cntI_le (oIll_wf (n := four / 10 % 100) hW (show 0 ≤ 1 by decide) (show four / 1000 < sA σ by omega)) (four / 1000) 20
          refine r_if_ltF C (y := 0) (tgt := 306) dX6_command_299 (by decide) (fun z => ((by omega) : ¬ (cntI (oIll σ (four / 1000) ((four / 10) % 100) 0) (four / 1000) 20 < 0)) ((z_ltN (by omega)).mp z)) ?_
          refine r_iconst C dX6_command_302 ki_1 ?_
          refine r_goto C 307 dX6_command_303 (by decide) ?_
          exact RT.1 _ _ _ _ _ dX6_command_307 rfl nar_1 (⟨_, _, _, _, sv (cm_y (by show four % 10 < 2 ∧ (four / 1000 < sA σ ∧ four / 10 % 100 < 20); omega)), rfl, by show RepM (if four % 10 < 2 then tIll σ (four / 1000) (four / 10 % 100) (four % 10) else σ) _; rw [if_pos (by omega)]; unfold tIll; rw [if_pos (show four / 1000 < sA σ ∧ four / 10 % 100 < 20 by omega)]; rw [show four % 10 = 0 from by omega]; exact hR_6⟩) rfl
        · refine r_iconst C dX6_command_291 ki_1 ?_
          refine r_goto C 296 dX6_command_292 (by decide) ?_
          refine r_callS (rest := []) C (c_X6_illOn (r := x4) (g := g) (σ := σ) (a := four / 1000) (n := (four / 10) % 100) (b := 1) (hR := hR) (hW := hW) (ha := (by omega)) (hn := (by omega)) (hb := (by omega))) lk_X6_illOn w_5_172 [4] dX6_command_296 rfl rfl rfl ⟨by decide, by decide⟩ (Nat.le_of_ble_eq_true rfl) ?_
          rintro _ _ ⟨g_8, rfl, rfl, hR_9⟩
          have hW_10 : Wf (oIll σ (four / 1000) ((four / 10) % 100) 1) := oIll_wf hW (by omega) (by omega)
          show ω [(hM, .inr (6, [.int (nI rf), .ref x1, .int (nI sz), .ref x3, .ref x4, .ref x5, .int (nI ac), .ref x7, .ref x8, .ref x9, .ref x10, .ref x11, .int (nI sp), .int (nI ou)])), (x9, .inl (eI E, 6, .inl t1)), (x10, .inl (eI E, 6, .inl t2)), (x11, .inl (eI E, 6, .inl t3)), (x4, .inl (eI E, 255, .inl g_8))] [(8, .int (nI (four % 10))), (7, .int (nI ((four / 10) % 10))), (6, .int (nI (four % 100))), (5, .int (nI ((four / 100) % 10))), (4, .int (nI (four / 100))), (3, .int (nI (four / 1000))), (0, .ref hM), (1, .int (nI 4)), (2, .int (nI four))] [.int (nI (cntI (oIll σ (four / 1000) ((four / 10) % 100) 1) (four / 1000) 20))] 299
          have hcl := cntI_le (oIll_wf (n := four / 10 % 100) hW (show 1 ≤ 1 by decide) (show four / 1000 < sA σ by omega)) (four / 1000) 20
          refine r_if_ltF C (y := 0) (tgt := 306) dX6_command_299 (by decide) (fun z => ((by omega) : ¬ (cntI (oIll σ (four / 1000) ((four / 10) % 100) 1) (four / 1000) 20 < 0)) ((z_ltN (by omega)).mp z)) ?_
          refine r_iconst C dX6_command_302 ki_1 ?_
          refine r_goto C 307 dX6_command_303 (by decide) ?_
          exact RT.1 _ _ _ _ _ dX6_command_307 rfl nar_1 (⟨_, _, _, _, sv (cm_y (by show four % 10 < 2 ∧ (four / 1000 < sA σ ∧ four / 10 % 100 < 20); omega)), rfl, by show RepM (if four % 10 < 2 then tIll σ (four / 1000) (four / 10 % 100) (four % 10) else σ) _; rw [if_pos (by omega)]; unfold tIll; rw [if_pos (show four / 1000 < sA σ ∧ four / 10 % 100 < 20 by omega)]; rw [show four % 10 = 1 from by omega]; exact hR_9⟩) rfl
set_option maxRecDepth 100000 in
set_option maxHeartbeats 1000000 in
theorem c_X6_command__5 {l : Launch} {E : Ev} {hM rf x1 sz x3 x4 x5 ac x7 x8 x9 x10 x11 sp ou : Nat} {t1 t2 t3 : Nat → Int32} {g : Nat → Int32} {σ : Sg} (hR : RepM σ g) (hW : Wf σ) {four : Nat} (hf : four < 10000) : Ct l E yX6_command cX6_command 9 (some FieldType.boolean) 5 123 [.ref hM, .int (nI 5), .int (nI four)] [(hM, .inr (6, [.int (nI rf), .ref x1, .int (nI sz), .ref x3, .ref x4, .ref x5, .int (nI ac), .ref x7, .ref x8, .ref x9, .ref x10, .ref x11, .int (nI sp), .int (nI ou)])), (x9, .inl (eI E, 6, .inl t1)), (x10, .inl (eI E, 6, .inl t2)), (x11, .inl (eI E, 6, .inl t3)), (x4, .inl (eI E, 255, .inl g))] (fun v9 w9 => ∃ ta tb tc g2 : Nat → Int32, v9 = some (.int (nI (cmN σ 5 four))) ∧ w9 = [(hM, .inr (6, [.int (nI rf), .ref x1, .int (nI sz), .ref x3, .ref x4, .ref x5, .int (nI ac), .ref x7, .ref x8, .ref x9, .ref x10, .ref x11, .int (nI sp), .int (nI ou)])), (x9, .inl (eI E, 6, .inl ta)), (x10, .inl (eI E, 6, .inl tb)), (x11, .inl (eI E, 6, .inl tc)), (x4, .inl (eI E, 255, .inl g2))] ∧ RepM (cmS σ 5 four) g2) := by
  have hwP := hW.P
  have hwA := hW.A
  have hwS := hW.S
  have hRb : ∀ p n, p < sP σ → n < 20 → sR σ p n ≤ 10 := fun p n hp hn => Nat.le_trans (hW.R hp hn) hW.A
  refine ct_of (by decide +kernel) (Nat.le_of_ble_eq_true rfl) (fun ω C RT => ?_)
  show ω [(hM, .inr (6, [.int (nI rf), .ref x1, .int (nI sz), .ref x3, .ref x4, .ref x5, .int (nI ac), .ref x7, .ref x8, .ref x9, .ref x10, .ref x11, .int (nI sp), .int (nI ou)])), (x9, .inl (eI E, 6, .inl t1)), (x10, .inl (eI E, 6, .inl t2)), (x11, .inl (eI E, 6, .inl t3)), (x4, .inl (eI E, 255, .inl g))] [(0, .ref hM), (1, .int (nI 5)), (2, .int (nI four))] [] 0
  refine r_iload_n C (i := 2) 2 dX6_command_0 rfl rfl ?_
  refine r_sipush C dX6_command_1 ks_1000 ?_
  refine r_idiv (v := nI (four / 1000)) C dX6_command_4 (v_nz (by omega) (by omega)) (v_div (by omega) (by omega) (by omega)) ?_
  refine r_istore_n C (lv' := [(3, .int (nI (four / 1000))), (0, .ref hM), (1, .int (nI 5)), (2, .int (nI four))]) dX6_command_5 rfl (by decide) rfl ?_
  refine r_iload_n C (i := 2) 3 dX6_command_6 rfl rfl ?_
  refine r_bipush C dX6_command_7 kb_100 ?_
  refine r_idiv (v := nI (four / 100)) C dX6_command_9 (v_nz (by omega) (by omega)) (v_div (by omega) (by omega) (by omega)) ?_
  refine r_istore C (lv' := [(4, .int (nI (four / 100))), (3, .int (nI (four / 1000))), (0, .ref hM), (1, .int (nI 5)), (2, .int (nI four))]) dX6_command_10 (by decide) rfl ?_
  refine r_iload C (i := 4) 0 dX6_command_12 rfl ?_
  refine r_bipush C dX6_command_14 kb_10 ?_
  refine r_irem (v := nI ((four / 100) % 10)) C dX6_command_16 (v_nz (by omega) (by omega)) (v_rem (by omega) (by omega) (by omega)) ?_
  refine r_istore C (lv' := [(5, .int (nI ((four / 100) % 10))), (4, .int (nI (four / 100))), (3, .int (nI (four / 1000))), (0, .ref hM), (1, .int (nI 5)), (2, .int (nI four))]) dX6_command_17 (by decide) rfl ?_
  refine r_iload_n C (i := 2) 5 dX6_command_19 rfl rfl ?_
  refine r_bipush C dX6_command_20 kb_100 ?_
  refine r_irem (v := nI (four % 100)) C dX6_command_22 (v_nz (by omega) (by omega)) (v_rem (by omega) (by omega) (by omega)) ?_
  refine r_istore C (lv' := [(6, .int (nI (four % 100))), (5, .int (nI ((four / 100) % 10))), (4, .int (nI (four / 100))), (3, .int (nI (four / 1000))), (0, .ref hM), (1, .int (nI 5)), (2, .int (nI four))]) dX6_command_23 (by decide) rfl ?_
  refine r_iload_n C (i := 2) 6 dX6_command_25 rfl rfl ?_
  refine r_bipush C dX6_command_26 kb_10 ?_
  refine r_idiv (v := nI (four / 10)) C dX6_command_28 (v_nz (by omega) (by omega)) (v_div (by omega) (by omega) (by omega)) ?_
  refine r_bipush C dX6_command_29 kb_10 ?_
  refine r_irem (v := nI ((four / 10) % 10)) C dX6_command_31 (v_nz (by omega) (by omega)) (v_rem (by omega) (by omega) (by omega)) ?_
  refine r_istore C (lv' := [(7, .int (nI ((four / 10) % 10))), (6, .int (nI (four % 100))), (5, .int (nI ((four / 100) % 10))), (4, .int (nI (four / 100))), (3, .int (nI (four / 1000))), (0, .ref hM), (1, .int (nI 5)), (2, .int (nI four))]) dX6_command_32 (by decide) rfl ?_
  refine r_iload_n C (i := 2) 7 dX6_command_34 rfl rfl ?_
  refine r_bipush C dX6_command_35 kb_10 ?_
  refine r_irem (v := nI (four % 10)) C dX6_command_37 (v_nz (by omega) (by omega)) (v_rem (by omega) (by omega) (by omega)) ?_
  refine r_istore C (lv' := [(8, .int (nI (four % 10))), (7, .int (nI ((four / 10) % 10))), (6, .int (nI (four % 100))), (5, .int (nI ((four / 100) % 10))), (4, .int (nI (four / 100))), (3, .int (nI (four / 1000))), (0, .ref hM), (1, .int (nI 5)), (2, .int (nI four))]) dX6_command_38 (by decide) rfl ?_
  refine r_iload_n C (i := 1) 7 dX6_command_40 rfl rfl ?_
  refine r_tabIn (off := 267) C 308 dX6_command_41 (by decide) (by decide) (by decide) (by decide) ?_
  refine r_aload_n C (i := 0) 6 dX6_command_308 rfl rfl ?_
  refine r_get C 0 4 uX6 rfl rfl (by decide) w_5_65 rfl dX6_command_309 ?_
  refine r_iload C (i := 4) 4 dX6_command_312 rfl ?_
  refine r_iload C (i := 7) 1 dX6_command_314 rfl ?_
  refine r_iload C (i := 8) 0 dX6_command_316 rfl ?_
  refine r_readS (rest := []) C (c_X6_canSlip (r := x4) (g := g) (σ := σ) (n := four / 100) (p := (four / 10) % 10) (a := four % 10) (hR := hR) (hW := hW) (hn := (by omega)) (hp := (by omega)) (ha := (by omega))) lk_X6_canSlip w_5_182 [4] dX6_command_318 rfl rfl rfl ⟨by decide, by decide⟩ (Nat.le_of_ble_eq_true rfl) (st' := [.int (bP ((four / 100) < 20 ∧ ((four / 10) % 10) < sP σ ∧ (four % 10) < sA σ ∧ sS σ < 20))]) rfl ?_
  refine r_if_eq C (y := 0) (c9 := ¬ ((four / 100) < 20 ∧ ((four / 10) % 10) < sP σ ∧ (four % 10) < sA σ ∧ sS σ < 20)) 346 dX6_command_321 (by decide) z_eqB (fun h321_1 => ?_) (fun h321_1 => ?_)
  · refine r_iconst C dX6_command_346 ki_0 ?_
    exact RT.1 _ _ _ _ _ dX6_command_347 rfl nar_0 (⟨_, _, _, _, sv (cm_n (by show ¬ (four / 100 < 20 ∧ four / 10 % 10 < sP σ ∧ four % 10 < sA σ ∧ 12 < 24 ∧ sS σ < 20); omega)), rfl, by show RepM (tSlip σ (four / 100) (four / 10 % 10) (four % 10) 12) _; unfold tSlip; rw [if_neg (show ¬ (four / 100 < 20 ∧ four / 10 % 10 < sP σ ∧ four % 10 < sA σ ∧ 12 < 24 ∧ sS σ < 20) by omega)]; exact hR⟩) rfl
  · replace h321_1 : (four / 100) < 20 ∧ ((four / 10) % 10) < sP σ ∧ (four % 10) < sA σ ∧ sS σ < 20 := Decidable.not_not.mp h321_1
    refine r_aload_n C (i := 0) 6 dX6_command_324 rfl rfl ?_
    refine r_get C 0 4 uX6 rfl rfl (by decide) w_5_65 rfl dX6_command_325 ?_
    refine r_iload C (i := 4) 4 dX6_command_328 rfl ?_
    refine r_iload C (i := 7) 1 dX6_command_330 rfl ?_
    refine r_iload C (i := 8) 0 dX6_command_332 rfl ?_
    refine r_bipush C dX6_command_334 kb_12 ?_
    refine r_callS (rest := []) C (c_X6_slipOn (r := x4) (g := g) (σ := σ) (n := four / 100) (p := (four / 10) % 10) (a := four % 10) (x := 12) (hR := hR) (hW := hW) (hn := (by omega)) (hp := (by omega)) (ha := (by omega)) (hx := (by omega)) (hS := (by omega))) lk_X6_slipOn w_5_189 [4] dX6_command_336 rfl rfl rfl ⟨by decide, by decide⟩ (Nat.le_of_ble_eq_true rfl) ?_
    rintro _ _ ⟨g_2, rfl, rfl, hR_3⟩
    have hW_4 : Wf (oSlip σ (four / 100) ((four / 10) % 10) (four % 10) 12) := oSlip_wf hW (by omega) (by omega) (by omega) (by omega) (by omega)
    show ω [(hM, .inr (6, [.int (nI rf), .ref x1, .int (nI sz), .ref x3, .ref x4, .ref x5, .int (nI ac), .ref x7, .ref x8, .ref x9, .ref x10, .ref x11, .int (nI sp), .int (nI ou)])), (x9, .inl (eI E, 6, .inl t1)), (x10, .inl (eI E, 6, .inl t2)), (x11, .inl (eI E, 6, .inl t3)), (x4, .inl (eI E, 255, .inl g_2))] [(8, .int (nI (four % 10))), (7, .int (nI ((four / 10) % 10))), (6, .int (nI (four % 100))), (5, .int (nI ((four / 100) % 10))), (4, .int (nI (four / 100))), (3, .int (nI (four / 1000))), (0, .ref hM), (1, .int (nI 5)), (2, .int (nI four))] [.int (nI (sS σ))] 339
    refine r_if_ltF C (y := 0) (tgt := 346) dX6_command_339 (by decide) (fun z => ((by omega) : ¬ (sS σ < 0)) ((z_ltN (by omega)).mp z)) ?_
    refine r_iconst C dX6_command_342 ki_1 ?_
    refine r_goto C 347 dX6_command_343 (by decide) ?_
    exact RT.1 _ _ _ _ _ dX6_command_347 rfl nar_1 (⟨_, _, _, _, sv (cm_y (by show four / 100 < 20 ∧ four / 10 % 10 < sP σ ∧ four % 10 < sA σ ∧ 12 < 24 ∧ sS σ < 20; omega)), rfl, by show RepM (tSlip σ (four / 100) (four / 10 % 10) (four % 10) 12) _; unfold tSlip; rw [if_pos (show four / 100 < 20 ∧ four / 10 % 10 < sP σ ∧ four % 10 < sA σ ∧ 12 < 24 ∧ sS σ < 20 by omega)]; exact hR_3⟩) rfl
set_option maxRecDepth 100000 in
set_option maxHeartbeats 1000000 in
theorem c_X6_command__6 {l : Launch} {E : Ev} {hM rf x1 sz x3 x4 x5 ac x7 x8 x9 x10 x11 sp ou : Nat} {t1 t2 t3 : Nat → Int32} {g : Nat → Int32} {σ : Sg} (hR : RepM σ g) (hW : Wf σ) {four : Nat} (hf : four < 10000) : Ct l E yX6_command cX6_command 9 (some FieldType.boolean) 5 123 [.ref hM, .int (nI 6), .int (nI four)] [(hM, .inr (6, [.int (nI rf), .ref x1, .int (nI sz), .ref x3, .ref x4, .ref x5, .int (nI ac), .ref x7, .ref x8, .ref x9, .ref x10, .ref x11, .int (nI sp), .int (nI ou)])), (x9, .inl (eI E, 6, .inl t1)), (x10, .inl (eI E, 6, .inl t2)), (x11, .inl (eI E, 6, .inl t3)), (x4, .inl (eI E, 255, .inl g))] (fun v9 w9 => ∃ ta tb tc g2 : Nat → Int32, v9 = some (.int (nI (cmN σ 6 four))) ∧ w9 = [(hM, .inr (6, [.int (nI rf), .ref x1, .int (nI sz), .ref x3, .ref x4, .ref x5, .int (nI ac), .ref x7, .ref x8, .ref x9, .ref x10, .ref x11, .int (nI sp), .int (nI ou)])), (x9, .inl (eI E, 6, .inl ta)), (x10, .inl (eI E, 6, .inl tb)), (x11, .inl (eI E, 6, .inl tc)), (x4, .inl (eI E, 255, .inl g2))] ∧ RepM (cmS σ 6 four) g2) := by
  have hwP := hW.P
  have hwA := hW.A
  have hwS := hW.S
  have hRb : ∀ p n, p < sP σ → n < 20 → sR σ p n ≤ 10 := fun p n hp hn => Nat.le_trans (hW.R hp hn) hW.A
  refine ct_of (by decide +kernel) (Nat.le_of_ble_eq_true rfl) (fun ω C RT => ?_)
  show ω [(hM, .inr (6, [.int (nI rf), .ref x1, .int (nI sz), .ref x3, .ref x4, .ref x5, .int (nI ac), .ref x7, .ref x8, .ref x9, .ref x10, .ref x11, .int (nI sp), .int (nI ou)])), (x9, .inl (eI E, 6, .inl t1)), (x10, .inl (eI E, 6, .inl t2)), (x11, .inl (eI E, 6, .inl t3)), (x4, .inl (eI E, 255, .inl g))] [(0, .ref hM), (1, .int (nI 6)), (2, .int (nI four))] [] 0
  refine r_iload_n C (i := 2) 2 dX6_command_0 rfl rfl ?_
  refine r_sipush C dX6_command_1 ks_1000 ?_
  refine r_idiv (v := nI (four / 1000)) C dX6_command_4 (v_nz (by omega) (by omega)) (v_div (by omega) (by omega) (by omega)) ?_
  refine r_istore_n C (lv' := [(3, .int (nI (four / 1000))), (0, .ref hM), (1, .int (nI 6)), (2, .int (nI four))]) dX6_command_5 rfl (by decide) rfl ?_
  refine r_iload_n C (i := 2) 3 dX6_command_6 rfl rfl ?_
  refine r_bipush C dX6_command_7 kb_100 ?_
  refine r_idiv (v := nI (four / 100)) C dX6_command_9 (v_nz (by omega) (by omega)) (v_div (by omega) (by omega) (by omega)) ?_
  refine r_istore C (lv' := [(4, .int (nI (four / 100))), (3, .int (nI (four / 1000))), (0, .ref hM), (1, .int (nI 6)), (2, .int (nI four))]) dX6_command_10 (by decide) rfl ?_
  refine r_iload C (i := 4) 0 dX6_command_12 rfl ?_
  refine r_bipush C dX6_command_14 kb_10 ?_
  refine r_irem (v := nI ((four / 100) % 10)) C dX6_command_16 (v_nz (by omega) (by omega)) (v_rem (by omega) (by omega) (by omega)) ?_
  refine r_istore C (lv' := [(5, .int (nI ((four / 100) % 10))), (4, .int (nI (four / 100))), (3, .int (nI (four / 1000))), (0, .ref hM), (1, .int (nI 6)), (2, .int (nI four))]) dX6_command_17 (by decide) rfl ?_
  refine r_iload_n C (i := 2) 5 dX6_command_19 rfl rfl ?_
  refine r_bipush C dX6_command_20 kb_100 ?_
  refine r_irem (v := nI (four % 100)) C dX6_command_22 (v_nz (by omega) (by omega)) (v_rem (by omega) (by omega) (by omega)) ?_
  refine r_istore C (lv' := [(6, .int (nI (four % 100))), (5, .int (nI ((four / 100) % 10))), (4, .int (nI (four / 100))), (3, .int (nI (four / 1000))), (0, .ref hM), (1, .int (nI 6)), (2, .int (nI four))]) dX6_command_23 (by decide) rfl ?_
  refine r_iload_n C (i := 2) 6 dX6_command_25 rfl rfl ?_
  refine r_bipush C dX6_command_26 kb_10 ?_
  refine r_idiv (v := nI (four / 10)) C dX6_command_28 (v_nz (by omega) (by omega)) (v_div (by omega) (by omega) (by omega)) ?_
  refine r_bipush C dX6_command_29 kb_10 ?_
  refine r_irem (v := nI ((four / 10) % 10)) C dX6_command_31 (v_nz (by omega) (by omega)) (v_rem (by omega) (by omega) (by omega)) ?_
  refine r_istore C (lv' := [(7, .int (nI ((four / 10) % 10))), (6, .int (nI (four % 100))), (5, .int (nI ((four / 100) % 10))), (4, .int (nI (four / 100))), (3, .int (nI (four / 1000))), (0, .ref hM), (1, .int (nI 6)), (2, .int (nI four))]) dX6_command_32 (by decide) rfl ?_
  refine r_iload_n C (i := 2) 7 dX6_command_34 rfl rfl ?_
  refine r_bipush C dX6_command_35 kb_10 ?_
  refine r_irem (v := nI (four % 10)) C dX6_command_37 (v_nz (by omega) (by omega)) (v_rem (by omega) (by omega) (by omega)) ?_
  refine r_istore C (lv' := [(8, .int (nI (four % 10))), (7, .int (nI ((four / 10) % 10))), (6, .int (nI (four % 100))), (5, .int (nI ((four / 100) % 10))), (4, .int (nI (four / 100))), (3, .int (nI (four / 1000))), (0, .ref hM), (1, .int (nI 6)), (2, .int (nI four))]) dX6_command_38 (by decide) rfl ?_
  refine r_iload_n C (i := 1) 7 dX6_command_40 rfl rfl ?_
  refine r_tabIn (off := 307) C 348 dX6_command_41 (by decide) (by decide) (by decide) (by decide) ?_
  refine r_iload C (i := 6) 2 dX6_command_348 rfl ?_
  refine r_if_ne C (y := 0) (c9 := four % 100 ≠ 0) 381 dX6_command_350 (by decide) (z_neN (by omega)) (fun h350_1 => ?_) (fun h350_1 => ?_)
  · refine r_iconst C dX6_command_381 ki_0 ?_
    exact RT.1 _ _ _ _ _ dX6_command_382 rfl nar_0 (⟨_, _, _, _, sv (cm_n (by show ¬ (four % 100 = 0 ∧ four / 100 < sS σ); omega)), rfl, by show RepM (if four % 100 = 0 then tLose σ (four / 100) else σ) _; rw [if_neg (by omega)]; exact hR⟩) rfl
  · refine r_aload_n C (i := 0) 6 dX6_command_353 rfl rfl ?_
    refine r_get C 0 4 uX6 rfl rfl (by decide) w_5_65 rfl dX6_command_354 ?_
    refine r_iload C (i := 4) 4 dX6_command_357 rfl ?_
    refine r_readS (rest := []) C (c_X6_isSlip (r := x4) (g := g) (σ := σ) (i := four / 100) (hR := hR) (hW := hW) (hi := (by omega))) lk_X6_isSlip w_6_43 [4] dX6_command_359 rfl rfl rfl ⟨by decide, by decide⟩ (Nat.le_of_ble_eq_true rfl) (st' := [.int (bP ((four / 100) < sS σ))]) rfl ?_
    refine r_if_eq C (y := 0) (c9 := ¬ ((four / 100) < sS σ)) 381 dX6_command_362 (by decide) z_eqB (fun h362_2 => ?_) (fun h362_2 => ?_)
    · refine r_iconst C dX6_command_381 ki_0 ?_
      exact RT.1 _ _ _ _ _ dX6_command_382 rfl nar_0 (⟨_, _, _, _, sv (cm_n (by show ¬ (four % 100 = 0 ∧ four / 100 < sS σ); omega)), rfl, by show RepM (if four % 100 = 0 then tLose σ (four / 100) else σ) _; rw [if_pos (by omega)]; unfold tLose; rw [if_neg (show ¬ (four / 100 < sS σ) by omega)]; exact hR⟩) rfl
    · replace h362_2 : (four / 100) < sS σ := Decidable.not_not.mp h362_2
      refine r_aload_n C (i := 0) 6 dX6_command_365 rfl rfl ?_
      refine r_get C 0 4 uX6 rfl rfl (by decide) w_5_65 rfl dX6_command_366 ?_
      refine r_iload C (i := 4) 4 dX6_command_369 rfl ?_
      refine r_callS (rest := []) C (c_X6_loseOn (r := x4) (g := g) (σ := σ) (k := four / 100) (hR := hR) (hW := hW) (hk := (by omega))) lk_X6_loseOn w_6_90 [4] dX6_command_371 rfl rfl rfl ⟨by decide, by decide⟩ (Nat.le_of_ble_eq_true rfl) ?_
      rintro _ _ ⟨g_3, rfl, rfl, hR_4⟩
      have hW_5 : Wf (oLose σ (four / 100)) := oLose_wf hW
      show ω [(hM, .inr (6, [.int (nI rf), .ref x1, .int (nI sz), .ref x3, .ref x4, .ref x5, .int (nI ac), .ref x7, .ref x8, .ref x9, .ref x10, .ref x11, .int (nI sp), .int (nI ou)])), (x9, .inl (eI E, 6, .inl t1)), (x10, .inl (eI E, 6, .inl t2)), (x11, .inl (eI E, 6, .inl t3)), (x4, .inl (eI E, 255, .inl g_3))] [(8, .int (nI (four % 10))), (7, .int (nI ((four / 10) % 10))), (6, .int (nI (four % 100))), (5, .int (nI ((four / 100) % 10))), (4, .int (nI (four / 100))), (3, .int (nI (four / 1000))), (0, .ref hM), (1, .int (nI 6)), (2, .int (nI four))] [.int (nI (sS σ - 1))] 374
      refine r_if_ltF C (y := 0) (tgt := 381) dX6_command_374 (by decide) (fun z => ((by omega) : ¬ (sS σ - 1 < 0)) ((z_ltN (by omega)).mp z)) ?_
      refine r_iconst C dX6_command_377 ki_1 ?_
      refine r_goto C 382 dX6_command_378 (by decide) ?_
      exact RT.1 _ _ _ _ _ dX6_command_382 rfl nar_1 (⟨_, _, _, _, sv (cm_y (by show four % 100 = 0 ∧ four / 100 < sS σ; omega)), rfl, by show RepM (if four % 100 = 0 then tLose σ (four / 100) else σ) _; rw [if_pos (by omega)]; unfold tLose; rw [if_pos (show four / 100 < sS σ by omega)]; exact hR_4⟩) rfl
set_option maxRecDepth 100000 in
set_option maxHeartbeats 1000000 in
theorem c_X6_command__7 {l : Launch} {E : Ev} {hM rf x1 sz x3 x4 x5 ac x7 x8 x9 x10 x11 sp ou : Nat} {t1 t2 t3 : Nat → Int32} {g : Nat → Int32} {σ : Sg} (hR : RepM σ g) (hW : Wf σ) {four : Nat} (hf : four < 10000) : Ct l E yX6_command cX6_command 9 (some FieldType.boolean) 5 123 [.ref hM, .int (nI 7), .int (nI four)] [(hM, .inr (6, [.int (nI rf), .ref x1, .int (nI sz), .ref x3, .ref x4, .ref x5, .int (nI ac), .ref x7, .ref x8, .ref x9, .ref x10, .ref x11, .int (nI sp), .int (nI ou)])), (x9, .inl (eI E, 6, .inl t1)), (x10, .inl (eI E, 6, .inl t2)), (x11, .inl (eI E, 6, .inl t3)), (x4, .inl (eI E, 255, .inl g))] (fun v9 w9 => ∃ ta tb tc g2 : Nat → Int32, v9 = some (.int (nI (cmN σ 7 four))) ∧ w9 = [(hM, .inr (6, [.int (nI rf), .ref x1, .int (nI sz), .ref x3, .ref x4, .ref x5, .int (nI ac), .ref x7, .ref x8, .ref x9, .ref x10, .ref x11, .int (nI sp), .int (nI ou)])), (x9, .inl (eI E, 6, .inl ta)), (x10, .inl (eI E, 6, .inl tb)), (x11, .inl (eI E, 6, .inl tc)), (x4, .inl (eI E, 255, .inl g2))] ∧ RepM (cmS σ 7 four) g2) := by
  have hwP := hW.P
  have hwA := hW.A
  have hwS := hW.S
  have hRb : ∀ p n, p < sP σ → n < 20 → sR σ p n ≤ 10 := fun p n hp hn => Nat.le_trans (hW.R hp hn) hW.A
  refine ct_of (by decide +kernel) (Nat.le_of_ble_eq_true rfl) (fun ω C RT => ?_)
  show ω [(hM, .inr (6, [.int (nI rf), .ref x1, .int (nI sz), .ref x3, .ref x4, .ref x5, .int (nI ac), .ref x7, .ref x8, .ref x9, .ref x10, .ref x11, .int (nI sp), .int (nI ou)])), (x9, .inl (eI E, 6, .inl t1)), (x10, .inl (eI E, 6, .inl t2)), (x11, .inl (eI E, 6, .inl t3)), (x4, .inl (eI E, 255, .inl g))] [(0, .ref hM), (1, .int (nI 7)), (2, .int (nI four))] [] 0
  refine r_iload_n C (i := 2) 2 dX6_command_0 rfl rfl ?_
  refine r_sipush C dX6_command_1 ks_1000 ?_
  refine r_idiv (v := nI (four / 1000)) C dX6_command_4 (v_nz (by omega) (by omega)) (v_div (by omega) (by omega) (by omega)) ?_
  refine r_istore_n C (lv' := [(3, .int (nI (four / 1000))), (0, .ref hM), (1, .int (nI 7)), (2, .int (nI four))]) dX6_command_5 rfl (by decide) rfl ?_
  refine r_iload_n C (i := 2) 3 dX6_command_6 rfl rfl ?_
  refine r_bipush C dX6_command_7 kb_100 ?_
  refine r_idiv (v := nI (four / 100)) C dX6_command_9 (v_nz (by omega) (by omega)) (v_div (by omega) (by omega) (by omega)) ?_
  refine r_istore C (lv' := [(4, .int (nI (four / 100))), (3, .int (nI (four / 1000))), (0, .ref hM), (1, .int (nI 7)), (2, .int (nI four))]) dX6_command_10 (by decide) rfl ?_
  refine r_iload C (i := 4) 0 dX6_command_12 rfl ?_
  refine r_bipush C dX6_command_14 kb_10 ?_
  refine r_irem (v := nI ((four / 100) % 10)) C dX6_command_16 (v_nz (by omega) (by omega)) (v_rem (by omega) (by omega) (by omega)) ?_
  refine r_istore C (lv' := [(5, .int (nI ((four / 100) % 10))), (4, .int (nI (four / 100))), (3, .int (nI (four / 1000))), (0, .ref hM), (1, .int (nI 7)), (2, .int (nI four))]) dX6_command_17 (by decide) rfl ?_
  refine r_iload_n C (i := 2) 5 dX6_command_19 rfl rfl ?_
  refine r_bipush C dX6_command_20 kb_100 ?_
  refine r_irem (v := nI (four % 100)) C dX6_command_22 (v_nz (by omega) (by omega)) (v_rem (by omega) (by omega) (by omega)) ?_
  refine r_istore C (lv' := [(6, .int (nI (four % 100))), (5, .int (nI ((four / 100) % 10))), (4, .int (nI (four / 100))), (3, .int (nI (four / 1000))), (0, .ref hM), (1, .int (nI 7)), (2, .int (nI four))]) dX6_command_23 (by decide) rfl ?_
  refine r_iload_n C (i := 2) 6 dX6_command_25 rfl rfl ?_
  refine r_bipush C dX6_command_26 kb_10 ?_
  refine r_idiv (v := nI (four / 10)) C dX6_command_28 (v_nz (by omega) (by omega)) (v_div (by omega) (by omega) (by omega)) ?_
  refine r_bipush C dX6_command_29 kb_10 ?_
  refine r_irem (v := nI ((four / 10) % 10)) C dX6_command_31 (v_nz (by omega) (by omega)) (v_rem (by omega) (by omega) (by omega)) ?_
  refine r_istore C (lv' := [(7, .int (nI ((four / 10) % 10))), (6, .int (nI (four % 100))), (5, .int (nI ((four / 100) % 10))), (4, .int (nI (four / 100))), (3, .int (nI (four / 1000))), (0, .ref hM), (1, .int (nI 7)), (2, .int (nI four))]) dX6_command_32 (by decide) rfl ?_
  refine r_iload_n C (i := 2) 7 dX6_command_34 rfl rfl ?_
  refine r_bipush C dX6_command_35 kb_10 ?_
  refine r_irem (v := nI (four % 10)) C dX6_command_37 (v_nz (by omega) (by omega)) (v_rem (by omega) (by omega) (by omega)) ?_
  refine r_istore C (lv' := [(8, .int (nI (four % 10))), (7, .int (nI ((four / 10) % 10))), (6, .int (nI (four % 100))), (5, .int (nI ((four / 100) % 10))), (4, .int (nI (four / 100))), (3, .int (nI (four / 1000))), (0, .ref hM), (1, .int (nI 7)), (2, .int (nI four))]) dX6_command_38 (by decide) rfl ?_
  refine r_iload_n C (i := 1) 7 dX6_command_40 rfl rfl ?_
  refine r_tabIn (off := 342) C 383 dX6_command_41 (by decide) (by decide) (by decide) (by decide) ?_
  refine r_iload C (i := 4) 4 dX6_command_383 rfl ?_
  refine r_readS (rest := []) C (c_X6_isNight (i := four / 100) (hi := (by omega))) lk_X6_isNight w_5_185 [] dX6_command_385 rfl rfl rfl ⟨by decide, by decide⟩ (Nat.le_of_ble_eq_true rfl) (st' := [.int (bP ((four / 100) ≤ 19))]) rfl ?_
  refine r_if_eq C (y := 0) (c9 := ¬ ((four / 100) ≤ 19)) 436 dX6_command_388 (by decide) z_eqB (fun h388_1 => ?_) (fun h388_1 => ?_)
  · refine r_iconst C dX6_command_436 ki_0 ?_
    exact RT.1 _ _ _ _ _ dX6_command_437 rfl nar_0 (⟨_, _, _, _, sv (cm_n (by show ¬ (four / 100 < 20 ∧ four / 10 % 10 < sP σ ∧ four % 10 < sA σ ∧ ply σ (four / 100) (four % 10) = four / 10 % 10 + 1); omega)), rfl, hR⟩) rfl
  · replace h388_1 : (four / 100) ≤ 19 := Decidable.not_not.mp h388_1
    refine r_aload_n C (i := 0) 6 dX6_command_391 rfl rfl ?_
    refine r_get C 0 4 uX6 rfl rfl (by decide) w_5_65 rfl dX6_command_392 ?_
    refine r_iload C (i := 7) 1 dX6_command_395 rfl ?_
    refine r_readS (rest := []) C (c_X6_isPart (r := x4) (g := g) (σ := σ) (i := (four / 10) % 10) (hR := hR) (hW := hW) (hi := (by omega))) lk_X6_isPart w_5_151 [4] dX6_command_397 rfl rfl rfl ⟨by decide, by decide⟩ (Nat.le_of_ble_eq_true rfl) (st' := [.int (bP (((four / 10) % 10) < sP σ))]) rfl ?_
    refine r_if_eq C (y := 0) (c9 := ¬ (((four / 10) % 10) < sP σ)) 436 dX6_command_400 (by decide) z_eqB (fun h400_2 => ?_) (fun h400_2 => ?_)
    · refine r_iconst C dX6_command_436 ki_0 ?_
      exact RT.1 _ _ _ _ _ dX6_command_437 rfl nar_0 (⟨_, _, _, _, sv (cm_n (by show ¬ (four / 100 < 20 ∧ four / 10 % 10 < sP σ ∧ four % 10 < sA σ ∧ ply σ (four / 100) (four % 10) = four / 10 % 10 + 1); omega)), rfl, hR⟩) rfl
    · replace h400_2 : ((four / 10) % 10) < sP σ := Decidable.not_not.mp h400_2
      refine r_aload_n C (i := 0) 6 dX6_command_403 rfl rfl ?_
      refine r_get C 0 4 uX6 rfl rfl (by decide) w_5_65 rfl dX6_command_404 ?_
      refine r_iload C (i := 8) 0 dX6_command_407 rfl ?_
      refine r_readS (rest := []) C (c_X6_isActor (r := x4) (g := g) (σ := σ) (i := four % 10) (hR := hR) (hW := hW) (hi := (by omega))) lk_X6_isActor w_5_154 [4] dX6_command_409 rfl rfl rfl ⟨by decide, by decide⟩ (Nat.le_of_ble_eq_true rfl) (st' := [.int (bP ((four % 10) < sA σ))]) rfl ?_
      refine r_if_eq C (y := 0) (c9 := ¬ ((four % 10) < sA σ)) 436 dX6_command_412 (by decide) z_eqB (fun h412_3 => ?_) (fun h412_3 => ?_)
      · refine r_iconst C dX6_command_436 ki_0 ?_
        exact RT.1 _ _ _ _ _ dX6_command_437 rfl nar_0 (⟨_, _, _, _, sv (cm_n (by show ¬ (four / 100 < 20 ∧ four / 10 % 10 < sP σ ∧ four % 10 < sA σ ∧ ply σ (four / 100) (four % 10) = four / 10 % 10 + 1); omega)), rfl, hR⟩) rfl
      · replace h412_3 : (four % 10) < sA σ := Decidable.not_not.mp h412_3
        refine r_aload_n C (i := 0) 6 dX6_command_415 rfl rfl ?_
        refine r_aload_n C (i := 0) 6 dX6_command_416 rfl rfl ?_
        refine r_get C 0 4 uX6 rfl rfl (by decide) w_5_65 rfl dX6_command_417 ?_
        refine r_iload C (i := 4) 4 dX6_command_420 rfl ?_
        refine r_iload C (i := 8) 0 dX6_command_422 rfl ?_
        refine r_callV (rest := []) C (c_X6_plays (hM := hM) (rf := rf) (x1 := x1) (sz := sz) (x3 := x3) (x4 := x4) (x5 := x5) (ac := ac) (x7 := x7) (x8 := x8) (x9 := x9) (x10 := x10) (x11 := x11) (sp := sp) (ou := ou) (t1 := t1) (t2 := t2) (t3 := t3) (r := x4) (g := g) (σ := σ) (n := four / 100) (a := four % 10) (hR := hR) (hW := hW) (hn := (by omega)) (ha := (by omega))) lk_X6_plays w_6_31 [0, 1, 2, 3, 4] rfl dX6_command_424 rfl rfl rfl rfl ⟨by decide, by decide⟩ (Nat.le_of_ble_eq_true rfl) ?_
        rintro _ _ ⟨ta_4, tb_5, tc_6, rfl, rfl⟩
        show ω [(hM, .inr (6, [.int (nI rf), .ref x1, .int (nI sz), .ref x3, .ref x4, .ref x5, .int (nI ac), .ref x7, .ref x8, .ref x9, .ref x10, .ref x11, .int (nI sp), .int (nI ou)])), (x9, .inl (eI E, 6, .inl ta_4)), (x10, .inl (eI E, 6, .inl tb_5)), (x11, .inl (eI E, 6, .inl tc_6)), (x4, .inl (eI E, 255, .inl g))] [(8, .int (nI (four % 10))), (7, .int (nI ((four / 10) % 10))), (6, .int (nI (four % 100))), (5, .int (nI ((four / 100) % 10))), (4, .int (nI (four / 100))), (3, .int (nI (four / 1000))), (0, .ref hM), (1, .int (nI 7)), (2, .int (nI four))] [.int (mI (ply σ (four / 100) (four % 10)))] 427
        have hyl := ply_le σ (four / 100) (four % 10)
        refine r_iload C (i := 7) 1 dX6_command_427 rfl ?_
        refine r_icmp_ne C (c9 := ply σ (four / 100) (four % 10) ≠ (four / 10) % 10 + 1) 436 dX6_command_429 (by decide) (c_neMN (by omega) (by omega)) (fun h429_7 => ?_) (fun h429_7 => ?_)
        · refine r_iconst C dX6_command_436 ki_0 ?_
          exact RT.1 _ _ _ _ _ dX6_command_437 rfl nar_0 (⟨_, _, _, _, sv (cm_n (by show ¬ (four / 100 < 20 ∧ four / 10 % 10 < sP σ ∧ four % 10 < sA σ ∧ ply σ (four / 100) (four % 10) = four / 10 % 10 + 1); omega)), rfl, hR⟩) rfl
        · refine r_iconst C dX6_command_432 ki_1 ?_
          refine r_goto C 437 dX6_command_433 (by decide) ?_
          exact RT.1 _ _ _ _ _ dX6_command_437 rfl nar_1 (⟨_, _, _, _, sv (cm_y (by show four / 100 < 20 ∧ four / 10 % 10 < sP σ ∧ four % 10 < sA σ ∧ ply σ (four / 100) (four % 10) = four / 10 % 10 + 1; omega)), rfl, hR⟩) rfl
set_option maxRecDepth 100000 in
set_option maxHeartbeats 1000000 in
theorem c_X6_command__8 {l : Launch} {E : Ev} {hM rf x1 sz x3 x4 x5 ac x7 x8 x9 x10 x11 sp ou : Nat} {t1 t2 t3 : Nat → Int32} {g : Nat → Int32} {σ : Sg} (hR : RepM σ g) (hW : Wf σ) {four : Nat} (hf : four < 10000) : Ct l E yX6_command cX6_command 9 (some FieldType.boolean) 5 123 [.ref hM, .int (nI 8), .int (nI four)] [(hM, .inr (6, [.int (nI rf), .ref x1, .int (nI sz), .ref x3, .ref x4, .ref x5, .int (nI ac), .ref x7, .ref x8, .ref x9, .ref x10, .ref x11, .int (nI sp), .int (nI ou)])), (x9, .inl (eI E, 6, .inl t1)), (x10, .inl (eI E, 6, .inl t2)), (x11, .inl (eI E, 6, .inl t3)), (x4, .inl (eI E, 255, .inl g))] (fun v9 w9 => ∃ ta tb tc g2 : Nat → Int32, v9 = some (.int (nI (cmN σ 8 four))) ∧ w9 = [(hM, .inr (6, [.int (nI rf), .ref x1, .int (nI sz), .ref x3, .ref x4, .ref x5, .int (nI ac), .ref x7, .ref x8, .ref x9, .ref x10, .ref x11, .int (nI sp), .int (nI ou)])), (x9, .inl (eI E, 6, .inl ta)), (x10, .inl (eI E, 6, .inl tb)), (x11, .inl (eI E, 6, .inl tc)), (x4, .inl (eI E, 255, .inl g2))] ∧ RepM (cmS σ 8 four) g2) := by
  have hwP := hW.P
  have hwA := hW.A
  have hwS := hW.S
  have hRb : ∀ p n, p < sP σ → n < 20 → sR σ p n ≤ 10 := fun p n hp hn => Nat.le_trans (hW.R hp hn) hW.A
  refine ct_of (by decide +kernel) (Nat.le_of_ble_eq_true rfl) (fun ω C RT => ?_)
  show ω [(hM, .inr (6, [.int (nI rf), .ref x1, .int (nI sz), .ref x3, .ref x4, .ref x5, .int (nI ac), .ref x7, .ref x8, .ref x9, .ref x10, .ref x11, .int (nI sp), .int (nI ou)])), (x9, .inl (eI E, 6, .inl t1)), (x10, .inl (eI E, 6, .inl t2)), (x11, .inl (eI E, 6, .inl t3)), (x4, .inl (eI E, 255, .inl g))] [(0, .ref hM), (1, .int (nI 8)), (2, .int (nI four))] [] 0
  refine r_iload_n C (i := 2) 2 dX6_command_0 rfl rfl ?_
  refine r_sipush C dX6_command_1 ks_1000 ?_
  refine r_idiv (v := nI (four / 1000)) C dX6_command_4 (v_nz (by omega) (by omega)) (v_div (by omega) (by omega) (by omega)) ?_
  refine r_istore_n C (lv' := [(3, .int (nI (four / 1000))), (0, .ref hM), (1, .int (nI 8)), (2, .int (nI four))]) dX6_command_5 rfl (by decide) rfl ?_
  refine r_iload_n C (i := 2) 3 dX6_command_6 rfl rfl ?_
  refine r_bipush C dX6_command_7 kb_100 ?_
  refine r_idiv (v := nI (four / 100)) C dX6_command_9 (v_nz (by omega) (by omega)) (v_div (by omega) (by omega) (by omega)) ?_
  refine r_istore C (lv' := [(4, .int (nI (four / 100))), (3, .int (nI (four / 1000))), (0, .ref hM), (1, .int (nI 8)), (2, .int (nI four))]) dX6_command_10 (by decide) rfl ?_
  refine r_iload C (i := 4) 0 dX6_command_12 rfl ?_
  refine r_bipush C dX6_command_14 kb_10 ?_
  refine r_irem (v := nI ((four / 100) % 10)) C dX6_command_16 (v_nz (by omega) (by omega)) (v_rem (by omega) (by omega) (by omega)) ?_
  refine r_istore C (lv' := [(5, .int (nI ((four / 100) % 10))), (4, .int (nI (four / 100))), (3, .int (nI (four / 1000))), (0, .ref hM), (1, .int (nI 8)), (2, .int (nI four))]) dX6_command_17 (by decide) rfl ?_
  refine r_iload_n C (i := 2) 5 dX6_command_19 rfl rfl ?_
  refine r_bipush C dX6_command_20 kb_100 ?_
  refine r_irem (v := nI (four % 100)) C dX6_command_22 (v_nz (by omega) (by omega)) (v_rem (by omega) (by omega) (by omega)) ?_
  refine r_istore C (lv' := [(6, .int (nI (four % 100))), (5, .int (nI ((four / 100) % 10))), (4, .int (nI (four / 100))), (3, .int (nI (four / 1000))), (0, .ref hM), (1, .int (nI 8)), (2, .int (nI four))]) dX6_command_23 (by decide) rfl ?_
  refine r_iload_n C (i := 2) 6 dX6_command_25 rfl rfl ?_
  refine r_bipush C dX6_command_26 kb_10 ?_
  refine r_idiv (v := nI (four / 10)) C dX6_command_28 (v_nz (by omega) (by omega)) (v_div (by omega) (by omega) (by omega)) ?_
  refine r_bipush C dX6_command_29 kb_10 ?_
  refine r_irem (v := nI ((four / 10) % 10)) C dX6_command_31 (v_nz (by omega) (by omega)) (v_rem (by omega) (by omega) (by omega)) ?_
  refine r_istore C (lv' := [(7, .int (nI ((four / 10) % 10))), (6, .int (nI (four % 100))), (5, .int (nI ((four / 100) % 10))), (4, .int (nI (four / 100))), (3, .int (nI (four / 1000))), (0, .ref hM), (1, .int (nI 8)), (2, .int (nI four))]) dX6_command_32 (by decide) rfl ?_
  refine r_iload_n C (i := 2) 7 dX6_command_34 rfl rfl ?_
  refine r_bipush C dX6_command_35 kb_10 ?_
  refine r_irem (v := nI (four % 10)) C dX6_command_37 (v_nz (by omega) (by omega)) (v_rem (by omega) (by omega) (by omega)) ?_
  refine r_istore C (lv' := [(8, .int (nI (four % 10))), (7, .int (nI ((four / 10) % 10))), (6, .int (nI (four % 100))), (5, .int (nI ((four / 100) % 10))), (4, .int (nI (four / 100))), (3, .int (nI (four / 1000))), (0, .ref hM), (1, .int (nI 8)), (2, .int (nI four))]) dX6_command_38 (by decide) rfl ?_
  refine r_iload_n C (i := 1) 7 dX6_command_40 rfl rfl ?_
  refine r_tabIn (off := 397) C 438 dX6_command_41 (by decide) (by decide) (by decide) (by decide) ?_
  refine r_iload C (i := 6) 2 dX6_command_438 rfl ?_
  refine r_iconst C dX6_command_440 ki_2 ?_
  refine r_icmp_ge C (c9 := 2 ≤ four % 100) 480 dX6_command_441 (by decide) (c_leNN (by omega) (by omega)) (fun h441_1 => ?_) (fun h441_1 => ?_)
  · refine r_iconst C dX6_command_480 ki_0 ?_
    exact RT.1 _ _ _ _ _ dX6_command_481 rfl nar_0 (⟨_, _, _, _, sv (cm_n (by show ¬ (four % 100 < 2 ∧ four / 100 < 20 ∧ dk σ (four / 100) = four % 10); omega)), rfl, hR⟩) rfl
  · refine r_iload C (i := 4) 4 dX6_command_444 rfl ?_
    refine r_readS (rest := []) C (c_X6_isNight (i := four / 100) (hi := (by omega))) lk_X6_isNight w_5_185 [] dX6_command_446 rfl rfl rfl ⟨by decide, by decide⟩ (Nat.le_of_ble_eq_true rfl) (st' := [.int (bP ((four / 100) ≤ 19))]) rfl ?_
    refine r_if_eq C (y := 0) (c9 := ¬ ((four / 100) ≤ 19)) 480 dX6_command_449 (by decide) z_eqB (fun h449_2 => ?_) (fun h449_2 => ?_)
    · refine r_iconst C dX6_command_480 ki_0 ?_
      exact RT.1 _ _ _ _ _ dX6_command_481 rfl nar_0 (⟨_, _, _, _, sv (cm_n (by show ¬ (four % 100 < 2 ∧ four / 100 < 20 ∧ dk σ (four / 100) = four % 10); omega)), rfl, hR⟩) rfl
    · replace h449_2 : (four / 100) ≤ 19 := Decidable.not_not.mp h449_2
      refine r_aload_n C (i := 0) 6 dX6_command_452 rfl rfl ?_
      refine r_aload_n C (i := 0) 6 dX6_command_453 rfl rfl ?_
      refine r_get C 0 4 uX6 rfl rfl (by decide) w_5_65 rfl dX6_command_454 ?_
      refine r_iload C (i := 4) 4 dX6_command_457 rfl ?_
      refine r_callV (rest := []) C (c_X6_goThrough (hM := hM) (rf := rf) (x1 := x1) (sz := sz) (x3 := x3) (x4 := x4) (x5 := x5) (ac := ac) (x7 := x7) (x8 := x8) (x9 := x9) (x10 := x10) (x11 := x11) (sp := sp) (ou := ou) (t1 := t1) (t2 := t2) (t3 := t3) (r := x4) (g := g) (σ := σ) (n := four / 100) (hR := hR) (hW := hW) (hn := (by omega))) lk_X6_goThrough w_5_211 [0, 1, 2, 3, 4] rfl dX6_command_459 rfl rfl rfl rfl ⟨by decide, by decide⟩ (Nat.le_of_ble_eq_true rfl) ?_
      rintro _ _ ⟨ta_3, tb_4, tc_5, rfl, rfl, hEv_6⟩
      show ω [(hM, .inr (6, [.int (nI rf), .ref x1, .int (nI sz), .ref x3, .ref x4, .ref x5, .int (nI ac), .ref x7, .ref x8, .ref x9, .ref x10, .ref x11, .int (nI sp), .int (nI ou)])), (x9, .inl (eI E, 6, .inl ta_3)), (x10, .inl (eI E, 6, .inl tb_4)), (x11, .inl (eI E, 6, .inl tc_5)), (x4, .inl (eI E, 255, .inl g))] [(8, .int (nI (four % 10))), (7, .int (nI ((four / 10) % 10))), (6, .int (nI (four % 100))), (5, .int (nI ((four / 100) % 10))), (4, .int (nI (four / 100))), (3, .int (nI (four / 1000))), (0, .ref hM), (1, .int (nI 8)), (2, .int (nI four))] [.int (bP (dk σ (four / 100) = 1))] 462
      refine r_iload C (i := 8) 0 dX6_command_462 rfl ?_
      refine r_iconst C dX6_command_464 ki_1 ?_
      refine r_icmp_ne C (c9 := four % 10 ≠ 1) 472 dX6_command_465 (by decide) (c_neNN (by omega) (by omega)) (fun h465_7 => ?_) (fun h465_7 => ?_)
      · refine r_iconst C dX6_command_472 ki_0 ?_
        have hdl := dk_le σ (four / 100)
        refine r_icmp_ne C (c9 := dk σ (four / 100) = 1) 480 dX6_command_473 (by decide) bp_ne0 (fun h473_8 => ?_) (fun h473_8 => ?_)
        · refine r_iconst C dX6_command_480 ki_0 ?_
          exact RT.1 _ _ _ _ _ dX6_command_481 rfl nar_0 (⟨_, _, _, _, sv (cm_n (by show ¬ (four % 100 < 2 ∧ four / 100 < 20 ∧ dk σ (four / 100) = four % 10); omega)), rfl, hR⟩) rfl
        · refine r_iconst C dX6_command_476 ki_1 ?_
          refine r_goto C 481 dX6_command_477 (by decide) ?_
          exact RT.1 _ _ _ _ _ dX6_command_481 rfl nar_1 (⟨_, _, _, _, sv (cm_y (by show four % 100 < 2 ∧ four / 100 < 20 ∧ dk σ (four / 100) = four % 10; omega)), rfl, hR⟩) rfl
      · refine r_iconst C dX6_command_468 ki_1 ?_
        refine r_goto C 473 dX6_command_469 (by decide) ?_
        have hdl := dk_le σ (four / 100)
        refine r_icmp_ne C (c9 := ¬ (dk σ (four / 100) = 1)) 480 dX6_command_473 (by decide) bp_ne1 (fun h473_9 => ?_) (fun h473_9 => ?_)
        · refine r_iconst C dX6_command_480 ki_0 ?_
          exact RT.1 _ _ _ _ _ dX6_command_481 rfl nar_0 (⟨_, _, _, _, sv (cm_n (by show ¬ (four % 100 < 2 ∧ four / 100 < 20 ∧ dk σ (four / 100) = four % 10); omega)), rfl, hR⟩) rfl
        · replace h473_9 : dk σ (four / 100) = 1 := Decidable.not_not.mp h473_9
          refine r_iconst C dX6_command_476 ki_1 ?_
          refine r_goto C 481 dX6_command_477 (by decide) ?_
          exact RT.1 _ _ _ _ _ dX6_command_481 rfl nar_1 (⟨_, _, _, _, sv (cm_y (by show four % 100 < 2 ∧ four / 100 < 20 ∧ dk σ (four / 100) = four % 10; omega)), rfl, hR⟩) rfl
set_option maxRecDepth 100000 in
set_option maxHeartbeats 1000000 in
theorem c_X6_command__9 {l : Launch} {E : Ev} {hM rf x1 sz x3 x4 x5 ac x7 x8 x9 x10 x11 sp ou : Nat} {t1 t2 t3 : Nat → Int32} {g : Nat → Int32} {σ : Sg} (hR : RepM σ g) (hW : Wf σ) {four : Nat} (hf : four < 10000) : Ct l E yX6_command cX6_command 9 (some FieldType.boolean) 5 123 [.ref hM, .int (nI 9), .int (nI four)] [(hM, .inr (6, [.int (nI rf), .ref x1, .int (nI sz), .ref x3, .ref x4, .ref x5, .int (nI ac), .ref x7, .ref x8, .ref x9, .ref x10, .ref x11, .int (nI sp), .int (nI ou)])), (x9, .inl (eI E, 6, .inl t1)), (x10, .inl (eI E, 6, .inl t2)), (x11, .inl (eI E, 6, .inl t3)), (x4, .inl (eI E, 255, .inl g))] (fun v9 w9 => ∃ ta tb tc g2 : Nat → Int32, v9 = some (.int (nI (cmN σ 9 four))) ∧ w9 = [(hM, .inr (6, [.int (nI rf), .ref x1, .int (nI sz), .ref x3, .ref x4, .ref x5, .int (nI ac), .ref x7, .ref x8, .ref x9, .ref x10, .ref x11, .int (nI sp), .int (nI ou)])), (x9, .inl (eI E, 6, .inl ta)), (x10, .inl (eI E, 6, .inl tb)), (x11, .inl (eI E, 6, .inl tc)), (x4, .inl (eI E, 255, .inl g2))] ∧ RepM (cmS σ 9 four) g2) := by
  have hwP := hW.P
  have hwA := hW.A
  have hwS := hW.S
  have hRb : ∀ p n, p < sP σ → n < 20 → sR σ p n ≤ 10 := fun p n hp hn => Nat.le_trans (hW.R hp hn) hW.A
  refine ct_of (by decide +kernel) (Nat.le_of_ble_eq_true rfl) (fun ω C RT => ?_)
  show ω [(hM, .inr (6, [.int (nI rf), .ref x1, .int (nI sz), .ref x3, .ref x4, .ref x5, .int (nI ac), .ref x7, .ref x8, .ref x9, .ref x10, .ref x11, .int (nI sp), .int (nI ou)])), (x9, .inl (eI E, 6, .inl t1)), (x10, .inl (eI E, 6, .inl t2)), (x11, .inl (eI E, 6, .inl t3)), (x4, .inl (eI E, 255, .inl g))] [(0, .ref hM), (1, .int (nI 9)), (2, .int (nI four))] [] 0
  refine r_iload_n C (i := 2) 2 dX6_command_0 rfl rfl ?_
  refine r_sipush C dX6_command_1 ks_1000 ?_
  refine r_idiv (v := nI (four / 1000)) C dX6_command_4 (v_nz (by omega) (by omega)) (v_div (by omega) (by omega) (by omega)) ?_
  refine r_istore_n C (lv' := [(3, .int (nI (four / 1000))), (0, .ref hM), (1, .int (nI 9)), (2, .int (nI four))]) dX6_command_5 rfl (by decide) rfl ?_
  refine r_iload_n C (i := 2) 3 dX6_command_6 rfl rfl ?_
  refine r_bipush C dX6_command_7 kb_100 ?_
  refine r_idiv (v := nI (four / 100)) C dX6_command_9 (v_nz (by omega) (by omega)) (v_div (by omega) (by omega) (by omega)) ?_
  refine r_istore C (lv' := [(4, .int (nI (four / 100))), (3, .int (nI (four / 1000))), (0, .ref hM), (1, .int (nI 9)), (2, .int (nI four))]) dX6_command_10 (by decide) rfl ?_
  refine r_iload C (i := 4) 0 dX6_command_12 rfl ?_
  refine r_bipush C dX6_command_14 kb_10 ?_
  refine r_irem (v := nI ((four / 100) % 10)) C dX6_command_16 (v_nz (by omega) (by omega)) (v_rem (by omega) (by omega) (by omega)) ?_
  refine r_istore C (lv' := [(5, .int (nI ((four / 100) % 10))), (4, .int (nI (four / 100))), (3, .int (nI (four / 1000))), (0, .ref hM), (1, .int (nI 9)), (2, .int (nI four))]) dX6_command_17 (by decide) rfl ?_
  refine r_iload_n C (i := 2) 5 dX6_command_19 rfl rfl ?_
  refine r_bipush C dX6_command_20 kb_100 ?_
  refine r_irem (v := nI (four % 100)) C dX6_command_22 (v_nz (by omega) (by omega)) (v_rem (by omega) (by omega) (by omega)) ?_
  refine r_istore C (lv' := [(6, .int (nI (four % 100))), (5, .int (nI ((four / 100) % 10))), (4, .int (nI (four / 100))), (3, .int (nI (four / 1000))), (0, .ref hM), (1, .int (nI 9)), (2, .int (nI four))]) dX6_command_23 (by decide) rfl ?_
  refine r_iload_n C (i := 2) 6 dX6_command_25 rfl rfl ?_
  refine r_bipush C dX6_command_26 kb_10 ?_
  refine r_idiv (v := nI (four / 10)) C dX6_command_28 (v_nz (by omega) (by omega)) (v_div (by omega) (by omega) (by omega)) ?_
  refine r_bipush C dX6_command_29 kb_10 ?_
  refine r_irem (v := nI ((four / 10) % 10)) C dX6_command_31 (v_nz (by omega) (by omega)) (v_rem (by omega) (by omega) (by omega)) ?_
  refine r_istore C (lv' := [(7, .int (nI ((four / 10) % 10))), (6, .int (nI (four % 100))), (5, .int (nI ((four / 100) % 10))), (4, .int (nI (four / 100))), (3, .int (nI (four / 1000))), (0, .ref hM), (1, .int (nI 9)), (2, .int (nI four))]) dX6_command_32 (by decide) rfl ?_
  refine r_iload_n C (i := 2) 7 dX6_command_34 rfl rfl ?_
  refine r_bipush C dX6_command_35 kb_10 ?_
  refine r_irem (v := nI (four % 10)) C dX6_command_37 (v_nz (by omega) (by omega)) (v_rem (by omega) (by omega) (by omega)) ?_
  refine r_istore C (lv' := [(8, .int (nI (four % 10))), (7, .int (nI ((four / 10) % 10))), (6, .int (nI (four % 100))), (5, .int (nI ((four / 100) % 10))), (4, .int (nI (four / 100))), (3, .int (nI (four / 1000))), (0, .ref hM), (1, .int (nI 9)), (2, .int (nI four))]) dX6_command_38 (by decide) rfl ?_
  refine r_iload_n C (i := 1) 7 dX6_command_40 rfl rfl ?_
  refine r_tabIn (off := 441) C 482 dX6_command_41 (by decide) (by decide) (by decide) (by decide) ?_
  refine r_iload C (i := 4) 4 dX6_command_482 rfl ?_
  refine r_if_ne C (y := 0) (c9 := four / 100 ≠ 0) 504 dX6_command_484 (by decide) (z_neN (by omega)) (fun h484_1 => ?_) (fun h484_1 => ?_)
  · refine r_iconst C dX6_command_504 ki_0 ?_
    exact RT.1 _ _ _ _ _ dX6_command_505 rfl nar_0 (⟨_, _, _, _, sv (cm_n (by show ¬ (four / 100 = 0 ∧ dkS σ 20 ≤ four % 100); omega)), rfl, hR⟩) rfl
  · refine r_aload_n C (i := 0) 6 dX6_command_487 rfl rfl ?_
    refine r_aload_n C (i := 0) 6 dX6_command_488 rfl rfl ?_
    refine r_get C 0 4 uX6 rfl rfl (by decide) w_5_65 rfl dX6_command_489 ?_
    refine r_callV (rest := []) C (c_X6_dark (hM := hM) (rf := rf) (x1 := x1) (sz := sz) (x3 := x3) (x4 := x4) (x5 := x5) (ac := ac) (x7 := x7) (x8 := x8) (x9 := x9) (x10 := x10) (x11 := x11) (sp := sp) (ou := ou) (t1 := t1) (t2 := t2) (t3 := t3) (r := x4) (g := g) (σ := σ) (hR := hR) (hW := hW)) lk_X6_dark w_5_230 [0, 1, 2, 3, 4] rfl dX6_command_492 rfl rfl rfl rfl ⟨by decide, by decide⟩ (Nat.le_of_ble_eq_true rfl) ?_
    rintro _ _ ⟨ta_2, tb_3, tc_4, rfl, rfl⟩
    show ω [(hM, .inr (6, [.int (nI rf), .ref x1, .int (nI sz), .ref x3, .ref x4, .ref x5, .int (nI ac), .ref x7, .ref x8, .ref x9, .ref x10, .ref x11, .int (nI sp), .int (nI ou)])), (x9, .inl (eI E, 6, .inl ta_2)), (x10, .inl (eI E, 6, .inl tb_3)), (x11, .inl (eI E, 6, .inl tc_4)), (x4, .inl (eI E, 255, .inl g))] [(8, .int (nI (four % 10))), (7, .int (nI ((four / 10) % 10))), (6, .int (nI (four % 100))), (5, .int (nI ((four / 100) % 10))), (4, .int (nI (four / 100))), (3, .int (nI (four / 1000))), (0, .ref hM), (1, .int (nI 9)), (2, .int (nI four))] [.int (nI (dkS σ 20))] 495
    have hdl := dkS_le σ 20
    refine r_iload C (i := 6) 2 dX6_command_495 rfl ?_
    refine r_icmp_gt C (c9 := four % 100 < dkS σ 20) 504 dX6_command_497 (by decide) (c_ltNN (by omega) (by omega)) (fun h497_5 => ?_) (fun h497_5 => ?_)
    · refine r_iconst C dX6_command_504 ki_0 ?_
      exact RT.1 _ _ _ _ _ dX6_command_505 rfl nar_0 (⟨_, _, _, _, sv (cm_n (by show ¬ (four / 100 = 0 ∧ dkS σ 20 ≤ four % 100); omega)), rfl, hR⟩) rfl
    · refine r_iconst C dX6_command_500 ki_1 ?_
      refine r_goto C 505 dX6_command_501 (by decide) ?_
      exact RT.1 _ _ _ _ _ dX6_command_505 rfl nar_1 (⟨_, _, _, _, sv (cm_y (by show four / 100 = 0 ∧ dkS σ 20 ≤ four % 100; omega)), rfl, hR⟩) rfl
