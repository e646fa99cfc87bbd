/-- what one thing done answers, and the archive behind it -/
def actR (K : Kt) (x : Nat) : Int32 × Kt :=
  if x % 16 = 0 then (if sP K.1 < 4 then (nI (sP K.1), kDo K (oPart K.1)) else (mI 0, K))
  else if x % 16 = 1 then rHire K (x / 16 % 10)
  else if x % 16 < 5 then (mI (sR K.1 (x / 16 % sP K.1) (x / 960 % 20)), kDo K (oCast K.1 (x / 16 % sP K.1) (if x / 19200 % 6 = 0 then 0 else x / 96 % sA K.1 + 1) (x / 960 % 20)))
  else if x % 16 < 7 then rStudy K (x / 16 % sP K.1) (x / 96 % sA K.1)
  else if x % 16 = 7 then rRel K (x / 16 % sP K.1) (x / 96 % sA K.1)
  else if x % 16 < 10 then (nI (cntI (oIll K.1 (x / 96 % sA K.1) (x / 960 % 20) (if x / 19200 % 3 = 0 then 0 else 1)) (x / 96 % sA K.1) 20), kDo K (oIll K.1 (x / 96 % sA K.1) (x / 960 % 20) (if x / 19200 % 3 = 0 then 0 else 1)))
  else if x % 16 < 12 then rSlip K (x / 960 % 20) (x / 16 % sP K.1) (x / 96 % sA K.1) (x / 19200 % 24)
  else if x % 16 = 12 then rLose K (x / 16 % 20)
  else if x % 16 = 13 then (if sP K.1 < 2 ∨ sA K.1 < 3 then rLay K (x / 16 % 2) (x / 32 % 12) else rUndo K)
  else if x % 16 = 14 then (nI (sS K.1), kSv K (x / 16 % 2))
  else rBack K (x / 16 % 2)
theorem gd_mono {σ τ : Sg} (h : gd σ) (hp : sP σ ≤ sP τ) (ha : sA σ ≤ sA τ) : gd τ := ⟨Nat.le_trans h.1 hp, Nat.le_trans h.2 ha⟩
theorem Gk_act {K : Kt} (h : Gk K) (x : Nat) : Gk (actR K x).2 := by
  have hg := h.1
  have st : ∀ τ : Sg, sP τ = sP K.1 → sA τ = sA K.1 → Gk (kDo K τ) := fun τ e1 e2 => Gk_do h (gd_mono hg (by omega) (by omega)) ⟨by omega, by omega⟩
  have hu : ¬ (sP K.1 < 2 ∨ sA K.1 < 3) → Gk (rUndo K).2 := by
    intro z
    unfold rUndo
    by_cases e : K.2.2.1 = 0
    · rw [if_pos e]; exact h
    · rw [if_neg e]
      have h5 := h.2.2.2.2 e
      exact Gk_un h e ⟨by have := h5.1; omega, by have := h5.2; omega⟩
  unfold actR
  split
  · split
    · exact Gk_do h (gd_mono hg (Nat.le_succ _) (Nat.le_refl _)) ⟨Nat.le_refl _, Nat.le_succ _⟩
    · exact h
  split
  · unfold rHire
    split
    · exact Gk_do h (gd_mono hg (Nat.le_refl _) (Nat.le_succ _)) ⟨Nat.le_succ _, Nat.le_refl _⟩
    · exact h
  split
  · exact st _ rfl rfl
  split
  · unfold rStudy
    split
    · exact st _ rfl rfl
    · exact h
  split
  · unfold rRel
    split
    · exact h
    · exact st _ rfl rfl
  split
  · exact st _ rfl rfl
  split
  · unfold rSlip
    split
    · exact st _ rfl rfl
    · exact h
  split
  · unfold rLose
    split
    · exact st _ rfl rfl
    · exact h
  split
  · split
    · unfold rLay
      split
      · exact st _ rfl rfl
      · exact h
    · rename_i z; exact hu z
  split
  · exact Gk_sv h _
  · unfold rBack
    split
    · rename_i z; exact Gk_rs h z
    · exact h
set_option maxRecDepth 100000 in
set_option maxHeartbeats 4000000 in
theorem n_act {l : Launch} {E : Ev} (hst : l.stackTraces = false) {α : Nat → Nat} {K : Kt} {w : va_W} (hA : Ark E α K w) (h1 : 1 ≤ sP K.1) (h2 : 2 ≤ sA K.1) {x : Nat} (hx : x < 2147483648) : CtN l E yL_act cL_act 7 (some FieldType.int) none 10 219 1 [.ref (α 0), .int (nI x)] w (fun v9 w9 => v9 = some (.int (actR K x).1) ∧ Ark E α (actR K x).2 w9) := by
  have hW := hA.W
  have hwP := hW.P
  have hwA := hW.A
  have hwS := hW.S
  have hp : x / 16 % sP K.1 < sP K.1 := Nat.mod_lt _ (by omega)
  have ha : x / 96 % sA K.1 < sA K.1 := Nat.mod_lt _ (by omega)
  refine ctn_of (by decide +kernel) (Nat.le_of_ble_eq_true rfl) (fun Ω hB => ?_)
  have C := hB.1 0 (by omega)
  have RT := hB.2.2.1 0 (by omega)
  show Ω 0 w [(0, .ref (α 0)), (1, .int (nI x))] [] 0
  refine r_aload_n C (i := 0) 0 dL_act_0 rfl rfl ?_
  refine r_iconst C dL_act_1 ki_2 ?_
  refine r_iconst C dL_act_2 ki_0 ?_
  refine r_iconst C dL_act_3 ki_0 ?_
  refine r_iconst C dL_act_4 ki_0 ?_
  refine Ca.on hB.2.2.2 hB.2.1 (j := 0) (K := 0) (rest := []) (by omega) (cl_about_0 hst hA  ).l lk_L_call w_2_41 dL_act_5 rfl ⟨by decide, by decide⟩ (Nat.le_of_ble_eq_true rfl) ?_
  rintro _ w1 ⟨rfl, hA2⟩
  show Ω 0 w1 [(0, .ref (α 0)), (1, .int (nI x))] [.int (nI (sP K.1))] 8
  refine r_istore_n C (lv' := [(2, .int (nI (sP K.1))), (0, .ref (α 0)), (1, .int (nI x))]) dL_act_8 rfl (by decide) rfl ?_
  refine r_aload_n C (i := 0) 1 dL_act_9 rfl rfl ?_
  refine r_iconst C dL_act_10 ki_2 ?_
  refine r_iconst C dL_act_11 ki_1 ?_
  refine r_iconst C dL_act_12 ki_0 ?_
  refine r_iconst C dL_act_13 ki_0 ?_
  refine Ca.on hB.2.2.2 hB.2.1 (j := 0) (K := 0) (rest := []) (by omega) (cl_about_1 hst hA2  ).l lk_L_call w_2_41 dL_act_14 rfl ⟨by decide, by decide⟩ (Nat.le_of_ble_eq_true rfl) ?_
  rintro _ w3 ⟨rfl, hA4⟩
  show Ω 0 w3 [(2, .int (nI (sP K.1))), (0, .ref (α 0)), (1, .int (nI x))] [.int (nI (sA K.1))] 17
  refine r_istore_n C (lv' := [(3, .int (nI (sA K.1))), (2, .int (nI (sP K.1))), (0, .ref (α 0)), (1, .int (nI x))]) dL_act_17 rfl (by decide) rfl ?_
  refine r_iload_n C (i := 1) 3 dL_act_18 rfl rfl ?_
  refine r_bipush C dL_act_19 kb_16 ?_
  refine r_idiv (v := nI (x / 16)) C dL_act_21 (v_nz (by omega) (by omega)) (v_div (by omega) (by omega) (by omega)) ?_
  refine r_iload_n C (i := 2) 1 dL_act_22 rfl rfl ?_
  refine r_irem (v := nI ((x / 16) % (sP K.1))) C dL_act_23 (v_nz (by omega) (by omega)) (v_rem (by omega) (by omega) (by omega)) ?_
  refine r_istore C (lv' := [(4, .int (nI ((x / 16) % (sP K.1)))), (3, .int (nI (sA K.1))), (2, .int (nI (sP K.1))), (0, .ref (α 0)), (1, .int (nI x))]) dL_act_24 (by decide) rfl ?_
  refine r_iload_n C (i := 1) 4 dL_act_26 rfl rfl ?_
  refine r_bipush C dL_act_27 kb_96 ?_
  refine r_idiv (v := nI (x / 96)) C dL_act_29 (v_nz (by omega) (by omega)) (v_div (by omega) (by omega) (by omega)) ?_
  refine r_iload_n C (i := 3) 1 dL_act_30 rfl rfl ?_
  refine r_irem (v := nI ((x / 96) % (sA K.1))) C dL_act_31 (v_nz (by omega) (by omega)) (v_rem (by omega) (by omega) (by omega)) ?_
  refine r_istore C (lv' := [(5, .int (nI ((x / 96) % (sA K.1)))), (4, .int (nI ((x / 16) % (sP K.1)))), (3, .int (nI (sA K.1))), (2, .int (nI (sP K.1))), (0, .ref (α 0)), (1, .int (nI x))]) dL_act_32 (by decide) rfl ?_
  refine r_iload_n C (i := 1) 5 dL_act_34 rfl rfl ?_
  refine r_sipush C dL_act_35 ks_960 ?_
  refine r_idiv (v := nI (x / 960)) C dL_act_38 (v_nz (by omega) (by omega)) (v_div (by omega) (by omega) (by omega)) ?_
  refine r_bipush C dL_act_39 kb_20 ?_
  refine r_irem (v := nI ((x / 960) % 20)) C dL_act_41 (v_nz (by omega) (by omega)) (v_rem (by omega) (by omega) (by omega)) ?_
  refine r_istore C (lv' := [(6, .int (nI ((x / 960) % 20))), (5, .int (nI ((x / 96) % (sA K.1)))), (4, .int (nI ((x / 16) % (sP K.1)))), (3, .int (nI (sA K.1))), (2, .int (nI (sP K.1))), (0, .ref (α 0)), (1, .int (nI x))]) dL_act_42 (by decide) rfl ?_
  refine r_iload_n C (i := 1) 6 dL_act_44 rfl rfl ?_
  refine r_bipush C dL_act_45 kb_16 ?_
  refine r_irem (v := nI (x % 16)) C dL_act_47 (v_nz (by omega) (by omega)) (v_rem (by omega) (by omega) (by omega)) ?_
  rcases (by omega : x % 16 = 0 ∨ x % 16 = 1 ∨ x % 16 = 2 ∨ x % 16 = 3 ∨ x % 16 = 4 ∨ x % 16 = 5 ∨ x % 16 = 6 ∨ x % 16 = 7 ∨ x % 16 = 8 ∨ x % 16 = 9 ∨ x % 16 = 10 ∨ x % 16 = 11 ∨ x % 16 = 12 ∨ x % 16 = 13 ∨ x % 16 = 14 ∨ x % 16 = 15) with h16 | h16 | h16 | h16 | h16 | h16 | h16 | h16 | h16 | h16 | h16 | h16 | h16 | h16 | h16 | h16
  · refine r_st (st' := [.int (nI 0)]) (by rw [h16]) ?_
    refine r_tabIn (off := 76) C 124 dL_act_48 (by decide) (by decide) (by decide) (by decide) ?_
    refine r_iload_n C (i := 2) 4 dL_act_124 rfl rfl ?_
    refine r_iconst C dL_act_125 ki_4 ?_
    refine r_icmp_ge C (c9 := 4 ≤ sP K.1) 141 dL_act_126 (by decide) (c_leNN (by omega) (by omega)) (fun h126_5 => ?_) (fun h126_5 => ?_)
    · refine r_iconst C dL_act_141 ki_m1 ?_
      exact RT.1 _ _ _ _ _ dL_act_142 rfl rfl (⟨by rw [(by unfold actR; rw [if_pos (by omega : x % 16 = 0), if_neg (by omega : ¬ sP K.1 < 4)] : actR K x = (mI 0, K))], by rw [(by unfold actR; rw [if_pos (by omega : x % 16 = 0), if_neg (by omega : ¬ sP K.1 < 4)] : actR K x = (mI 0, K))]; exact hA4⟩) (hA4.fst.trans hA.fst.symm)
    · refine r_aload_n C (i := 0) 5 dL_act_129 rfl rfl ?_
      refine r_bipush C dL_act_130 kb_11 ?_
      refine r_iconst C dL_act_132 ki_0 ?_
      refine r_iconst C dL_act_133 ki_0 ?_
      refine r_iconst C dL_act_134 ki_0 ?_
      refine Ca.on hB.2.2.2 hB.2.1 (j := 0) (K := 0) (rest := []) (by omega) (cl_part hst hA4  (hq := (by omega))).l lk_L_call w_2_41 dL_act_135 rfl ⟨by decide, by decide⟩ (Nat.le_of_ble_eq_true rfl) ?_
      rintro _ w6 ⟨rfl, hA7⟩
      replace hA7 : Ark E α (kDo K (oPart K.1)) w6 := hA7
      show Ω 0 w6 [(6, .int (nI ((x / 960) % 20))), (5, .int (nI ((x / 96) % (sA K.1)))), (4, .int (nI ((x / 16) % (sP K.1)))), (3, .int (nI (sA K.1))), (2, .int (nI (sP K.1))), (0, .ref (α 0)), (1, .int (nI x))] [.int (nI (sP K.1))] 138
      refine r_goto C 142 dL_act_138 (by decide) ?_
      exact RT.1 _ _ _ _ _ dL_act_142 rfl rfl (⟨by rw [(by unfold actR; rw [if_pos (by omega : x % 16 = 0), if_pos (by omega : sP K.1 < 4)] : actR K x = (nI (sP K.1), (kDo K (oPart K.1))))], by rw [(by unfold actR; rw [if_pos (by omega : x % 16 = 0), if_pos (by omega : sP K.1 < 4)] : actR K x = (nI (sP K.1), (kDo K (oPart K.1))))]; exact hA7⟩) (hA7.fst.trans hA.fst.symm)
  · refine r_st (st' := [.int (nI 1)]) (by rw [h16]) ?_
    refine r_tabIn (off := 95) C 143 dL_act_48 (by decide) (by decide) (by decide) (by decide) ?_
    refine r_aload_n C (i := 0) 5 dL_act_143 rfl rfl ?_
    refine r_bipush C dL_act_144 kb_10 ?_
    refine r_iload_n C (i := 1) 6 dL_act_146 rfl rfl ?_
    refine r_bipush C dL_act_147 kb_16 ?_
    refine r_idiv (v := nI (x / 16)) C dL_act_149 (v_nz (by omega) (by omega)) (v_div (by omega) (by omega) (by omega)) ?_
    refine r_bipush C dL_act_150 kb_10 ?_
    refine r_irem (v := nI ((x / 16) % 10)) C dL_act_152 (v_nz (by omega) (by omega)) (v_rem (by omega) (by omega) (by omega)) ?_
    refine r_iconst C dL_act_153 ki_0 ?_
    refine r_iconst C dL_act_154 ki_0 ?_
    refine Ca.on hB.2.2.2 hB.2.1 (j := 0) (K := 1) (rest := []) (by omega) (ct_hire hst hA4 (x := (x / 16) % 10) (hx := (by omega))) lk_L_call w_2_41 dL_act_155 rfl ⟨by decide, by decide⟩ (Nat.le_of_ble_eq_true rfl) ?_
    rintro _ w8 ⟨rfl, hA9⟩
    have C := hB.1 1 (by omega)
    have RT := hB.2.2.1 1 (by omega)
    show Ω 1 w8 [(6, .int (nI ((x / 960) % 20))), (5, .int (nI ((x / 96) % (sA K.1)))), (4, .int (nI ((x / 16) % (sP K.1)))), (3, .int (nI (sA K.1))), (2, .int (nI (sP K.1))), (0, .ref (α 0)), (1, .int (nI x))] [.int ((rHire K ((x / 16) % 10)).1)] 158
    exact RT.1 _ _ _ _ _ dL_act_158 rfl rfl (⟨by rw [(by unfold actR; rw [if_neg (by omega : ¬ (x % 16 = 0)), if_pos (by omega : x % 16 = 1)] : actR K x = (((rHire K ((x / 16) % 10)).1), ((rHire K ((x / 16) % 10)).2)))], by rw [(by unfold actR; rw [if_neg (by omega : ¬ (x % 16 = 0)), if_pos (by omega : x % 16 = 1)] : actR K x = (((rHire K ((x / 16) % 10)).1), ((rHire K ((x / 16) % 10)).2)))]; exact hA9⟩) (hA9.fst.trans hA.fst.symm)
  · refine r_st (st' := [.int (nI 2)]) (by rw [h16]) ?_
    refine r_tabIn (off := 111) C 159 dL_act_48 (by decide) (by decide) (by decide) (by decide) ?_
    refine r_aload_n C (i := 0) 5 dL_act_159 rfl rfl ?_
    refine r_bipush C dL_act_160 kb_12 ?_
    refine r_iload C (i := 4) 2 dL_act_162 rfl ?_
    refine r_iload_n C (i := 1) 6 dL_act_164 rfl rfl ?_
    refine r_sipush C dL_act_165 ks_19200 ?_
    refine r_idiv (v := nI (x / 19200)) C dL_act_168 (v_nz (by omega) (by omega)) (v_div (by omega) (by omega) (by omega)) ?_
    refine r_bipush C dL_act_169 kb_6 ?_
    refine r_irem (v := nI ((x / 19200) % 6)) C dL_act_171 (v_nz (by omega) (by omega)) (v_rem (by omega) (by omega) (by omega)) ?_
    refine r_if_ne C (y := 0) (c9 := (x / 19200) % 6 ≠ 0) 179 dL_act_172 (by decide) (z_neN (by omega)) (fun h172_10 => ?_) (fun h172_10 => ?_)
    · refine r_iload C (i := 5) 1 dL_act_179 rfl ?_
      refine r_iload C (i := 6) 0 dL_act_181 rfl ?_
      refine r_st (st' := [.int (nI ((x / 960) % 20)), .int (mI ((x / 96) % (sA K.1) + 1)), .int (nI ((x / 16) % (sP K.1))), .int (nI 12), .ref (α 0)]) (by simp only [mI_s]) ?_
      refine Ca.on hB.2.2.2 hB.2.1 (j := 0) (K := 0) (rest := []) (by omega) (cl_cast hst hA4 (n := (x / 960) % 20) (p := (x / 16) % (sP K.1)) (x := (x / 96) % (sA K.1) + 1) (hp := (by omega)) (hn := (by omega)) (hx := (by omega))).l lk_L_call w_2_41 dL_act_183 rfl ⟨by decide, by decide⟩ (Nat.le_of_ble_eq_true rfl) ?_
      rintro _ w11 ⟨rfl, hA12⟩
      replace hA12 : Ark E α (kDo K (oCast K.1 ((x / 16) % (sP K.1)) ((x / 96) % (sA K.1) + 1) ((x / 960) % 20))) w11 := hA12
      show Ω 0 w11 [(6, .int (nI ((x / 960) % 20))), (5, .int (nI ((x / 96) % (sA K.1)))), (4, .int (nI ((x / 16) % (sP K.1)))), (3, .int (nI (sA K.1))), (2, .int (nI (sP K.1))), (0, .ref (α 0)), (1, .int (nI x))] [.int (mI (sR K.1 ((x / 16) % (sP K.1)) ((x / 960) % 20)))] 186
      exact RT.1 _ _ _ _ _ dL_act_186 rfl rfl (⟨by rw [(by unfold actR; rw [if_neg (by omega : ¬ (x % 16 = 0)), if_neg (by omega : ¬ (x % 16 = 1)), if_pos (by omega : x % 16 < 5), if_neg (by omega : ¬ x / 19200 % 6 = 0)] : actR K x = (mI (sR K.1 ((x / 16) % (sP K.1)) ((x / 960) % 20)), (kDo K (oCast K.1 ((x / 16) % (sP K.1)) ((x / 96) % (sA K.1) + 1) ((x / 960) % 20)))))], by rw [(by unfold actR; rw [if_neg (by omega : ¬ (x % 16 = 0)), if_neg (by omega : ¬ (x % 16 = 1)), if_pos (by omega : x % 16 < 5), if_neg (by omega : ¬ x / 19200 % 6 = 0)] : actR K x = (mI (sR K.1 ((x / 16) % (sP K.1)) ((x / 960) % 20)), (kDo K (oCast K.1 ((x / 16) % (sP K.1)) ((x / 96) % (sA K.1) + 1) ((x / 960) % 20)))))]; exact hA12⟩) (hA12.fst.trans hA.fst.symm)
    · refine r_iconst C dL_act_175 ki_m1 ?_
      refine r_goto C 181 dL_act_176 (by decide) ?_
      refine r_iload C (i := 6) 0 dL_act_181 rfl ?_
      refine Ca.on hB.2.2.2 hB.2.1 (j := 0) (K := 0) (rest := []) (by omega) (cl_cast hst hA4 (n := (x / 960) % 20) (p := (x / 16) % (sP K.1)) (x := 0) (hp := (by omega)) (hn := (by omega)) (hx := (by omega))).l lk_L_call w_2_41 dL_act_183 rfl ⟨by decide, by decide⟩ (Nat.le_of_ble_eq_true rfl) ?_
      rintro _ w13 ⟨rfl, hA14⟩
      replace hA14 : Ark E α (kDo K (oCast K.1 ((x / 16) % (sP K.1)) 0 ((x / 960) % 20))) w13 := hA14
      show Ω 0 w13 [(6, .int (nI ((x / 960) % 20))), (5, .int (nI ((x / 96) % (sA K.1)))), (4, .int (nI ((x / 16) % (sP K.1)))), (3, .int (nI (sA K.1))), (2, .int (nI (sP K.1))), (0, .ref (α 0)), (1, .int (nI x))] [.int (mI (sR K.1 ((x / 16) % (sP K.1)) ((x / 960) % 20)))] 186
      exact RT.1 _ _ _ _ _ dL_act_186 rfl rfl (⟨by rw [(by unfold actR; rw [if_neg (by omega : ¬ (x % 16 = 0)), if_neg (by omega : ¬ (x % 16 = 1)), if_pos (by omega : x % 16 < 5), if_pos (by omega : x / 19200 % 6 = 0)] : actR K x = (mI (sR K.1 ((x / 16) % (sP K.1)) ((x / 960) % 20)), (kDo K (oCast K.1 ((x / 16) % (sP K.1)) 0 ((x / 960) % 20)))))], by rw [(by unfold actR; rw [if_neg (by omega : ¬ (x % 16 = 0)), if_neg (by omega : ¬ (x % 16 = 1)), if_pos (by omega : x % 16 < 5), if_pos (by omega : x / 19200 % 6 = 0)] : actR K x = (mI (sR K.1 ((x / 16) % (sP K.1)) ((x / 960) % 20)), (kDo K (oCast K.1 ((x / 16) % (sP K.1)) 0 ((x / 960) % 20)))))]; exact hA14⟩) (hA14.fst.trans hA.fst.symm)
  · refine r_st (st' := [.int (nI 3)]) (by rw [h16]) ?_
    refine r_tabIn (off := 111) C 159 dL_act_48 (by decide) (by decide) (by decide) (by decide) ?_
    refine r_aload_n C (i := 0) 5 dL_act_159 rfl rfl ?_
    refine r_bipush C dL_act_160 kb_12 ?_
    refine r_iload C (i := 4) 2 dL_act_162 rfl ?_
    refine r_iload_n C (i := 1) 6 dL_act_164 rfl rfl ?_
    refine r_sipush C dL_act_165 ks_19200 ?_
    refine r_idiv (v := nI (x / 19200)) C dL_act_168 (v_nz (by omega) (by omega)) (v_div (by omega) (by omega) (by omega)) ?_
    refine r_bipush C dL_act_169 kb_6 ?_
    refine r_irem (v := nI ((x / 19200) % 6)) C dL_act_171 (v_nz (by omega) (by omega)) (v_rem (by omega) (by omega) (by omega)) ?_
    refine r_if_ne C (y := 0) (c9 := (x / 19200) % 6 ≠ 0) 179 dL_act_172 (by decide) (z_neN (by omega)) (fun h172_15 => ?_) (fun h172_15 => ?_)
    · refine r_iload C (i := 5) 1 dL_act_179 rfl ?_
      refine r_iload C (i := 6) 0 dL_act_181 rfl ?_
      refine r_st (st' := [.int (nI ((x / 960) % 20)), .int (mI ((x / 96) % (sA K.1) + 1)), .int (nI ((x / 16) % (sP K.1))), .int (nI 12), .ref (α 0)]) (by simp only [mI_s]) ?_
      refine Ca.on hB.2.2.2 hB.2.1 (j := 0) (K := 0) (rest := []) (by omega) (cl_cast hst hA4 (n := (x / 960) % 20) (p := (x / 16) % (sP K.1)) (x := (x / 96) % (sA K.1) + 1) (hp := (by omega)) (hn := (by omega)) (hx := (by omega))).l lk_L_call w_2_41 dL_act_183 rfl ⟨by decide, by decide⟩ (Nat.le_of_ble_eq_true rfl) ?_
      rintro _ w16 ⟨rfl, hA17⟩
      replace hA17 : Ark E α (kDo K (oCast K.1 ((x / 16) % (sP K.1)) ((x / 96) % (sA K.1) + 1) ((x / 960) % 20))) w16 := hA17
      show Ω 0 w16 [(6, .int (nI ((x / 960) % 20))), (5, .int (nI ((x / 96) % (sA K.1)))), (4, .int (nI ((x / 16) % (sP K.1)))), (3, .int (nI (sA K.1))), (2, .int (nI (sP K.1))), (0, .ref (α 0)), (1, .int (nI x))] [.int (mI (sR K.1 ((x / 16) % (sP K.1)) ((x / 960) % 20)))] 186
      exact RT.1 _ _ _ _ _ dL_act_186 rfl rfl (⟨by rw [(by unfold actR; rw [if_neg (by omega : ¬ (x % 16 = 0)), if_neg (by omega : ¬ (x % 16 = 1)), if_pos (by omega : x % 16 < 5), if_neg (by omega : ¬ x / 19200 % 6 = 0)] : actR K x = (mI (sR K.1 ((x / 16) % (sP K.1)) ((x / 960) % 20)), (kDo K (oCast K.1 ((x / 16) % (sP K.1)) ((x / 96) % (sA K.1) + 1) ((x / 960) % 20)))))], by rw [(by unfold actR; rw [if_neg (by omega : ¬ (x % 16 = 0)), if_neg (by omega : ¬ (x % 16 = 1)), if_pos (by omega : x % 16 < 5), if_neg (by omega : ¬ x / 19200 % 6 = 0)] : actR K x = (mI (sR K.1 ((x / 16) % (sP K.1)) ((x / 960) % 20)), (kDo K (oCast K.1 ((x / 16) % (sP K.1)) ((x / 96) % (sA K.1) + 1) ((x / 960) % 20)))))]; exact hA17⟩) (hA17.fst.trans hA.fst.symm)
    · refine r_iconst C dL_act_175 ki_m1 ?_
      refine r_goto C 181 dL_act_176 (by decide) ?_
      refine r_iload C (i := 6) 0 dL_act_181 rfl ?_
      refine Ca.on hB.2.2.2 hB.2.1 (j := 0) (K := 0) (rest := []) (by omega) (cl_cast hst hA4 (n := (x / 960) % 20) (p := (x / 16) % (sP K.1)) (x := 0) (hp := (by omega)) (hn := (by omega)) (hx := (by omega))).l lk_L_call w_2_41 dL_act_183 rfl ⟨by decide, by decide⟩ (Nat.le_of_ble_eq_true rfl) ?_
      rintro _ w18 ⟨rfl, hA19⟩
      replace hA19 : Ark E α (kDo K (oCast K.1 ((x / 16) % (sP K.1)) 0 ((x / 960) % 20))) w18 := hA19
      show Ω 0 w18 [(6, .int (nI ((x / 960) % 20))), (5, .int (nI ((x / 96) % (sA K.1)))), (4, .int (nI ((x / 16) % (sP K.1)))), (3, .int (nI (sA K.1))), (2, .int (nI (sP K.1))), (0, .ref (α 0)), (1, .int (nI x))] [.int (mI (sR K.1 ((x / 16) % (sP K.1)) ((x / 960) % 20)))] 186
      exact RT.1 _ _ _ _ _ dL_act_186 rfl rfl (⟨by rw [(by unfold actR; rw [if_neg (by omega : ¬ (x % 16 = 0)), if_neg (by omega : ¬ (x % 16 = 1)), if_pos (by omega : x % 16 < 5), if_pos (by omega : x / 19200 % 6 = 0)] : actR K x = (mI (sR K.1 ((x / 16) % (sP K.1)) ((x / 960) % 20)), (kDo K (oCast K.1 ((x / 16) % (sP K.1)) 0 ((x / 960) % 20)))))], by rw [(by unfold actR; rw [if_neg (by omega : ¬ (x % 16 = 0)), if_neg (by omega : ¬ (x % 16 = 1)), if_pos (by omega : x % 16 < 5), if_pos (by omega : x / 19200 % 6 = 0)] : actR K x = (mI (sR K.1 ((x / 16) % (sP K.1)) ((x / 960) % 20)), (kDo K (oCast K.1 ((x / 16) % (sP K.1)) 0 ((x / 960) % 20)))))]; exact hA19⟩) (hA19.fst.trans hA.fst.symm)
  · refine r_st (st' := [.int (nI 4)]) (by rw [h16]) ?_
    refine r_tabIn (off := 111) C 159 dL_act_48 (by decide) (by decide) (by decide) (by decide) ?_
    refine r_aload_n C (i := 0) 5 dL_act_159 rfl rfl ?_
    refine r_bipush C dL_act_160 kb_12 ?_
    refine r_iload C (i := 4) 2 dL_act_162 rfl ?_
    refine r_iload_n C (i := 1) 6 dL_act_164 rfl rfl ?_
    refine r_sipush C dL_act_165 ks_19200 ?_
    refine r_idiv (v := nI (x / 19200)) C dL_act_168 (v_nz (by omega) (by omega)) (v_div (by omega) (by omega) (by omega)) ?_
    refine r_bipush C dL_act_169 kb_6 ?_
    refine r_irem (v := nI ((x / 19200) % 6)) C dL_act_171 (v_nz (by omega) (by omega)) (v_rem (by omega) (by omega) (by omega)) ?_
    refine r_if_ne C (y := 0) (c9 := (x / 19200) % 6 ≠ 0) 179 dL_act_172 (by decide) (z_neN (by omega)) (fun h172_20 => ?_) (fun h172_20 => ?_)
    · refine r_iload C (i := 5) 1 dL_act_179 rfl ?_
      refine r_iload C (i := 6) 0 dL_act_181 rfl ?_
      refine r_st (st' := [.int (nI ((x / 960) % 20)), .int (mI ((x / 96) % (sA K.1) + 1)), .int (nI ((x / 16) % (sP K.1))), .int (nI 12), .ref (α 0)]) (by simp only [mI_s]) ?_
      refine Ca.on hB.2.2.2 hB.2.1 (j := 0) (K := 0) (rest := []) (by omega) (cl_cast hst hA4 (n := (x / 960) % 20) (p := (x / 16) % (sP K.1)) (x := (x / 96) % (sA K.1) + 1) (hp := (by omega)) (hn := (by omega)) (hx := (by omega))).l lk_L_call w_2_41 dL_act_183 rfl ⟨by decide, by decide⟩ (Nat.le_of_ble_eq_true rfl) ?_
      rintro _ w21 ⟨rfl, hA22⟩
      replace hA22 : Ark E α (kDo K (oCast K.1 ((x / 16) % (sP K.1)) ((x / 96) % (sA K.1) + 1) ((x / 960) % 20))) w21 := hA22
      show Ω 0 w21 [(6, .int (nI ((x / 960) % 20))), (5, .int (nI ((x / 96) % (sA K.1)))), (4, .int (nI ((x / 16) % (sP K.1)))), (3, .int (nI (sA K.1))), (2, .int (nI (sP K.1))), (0, .ref (α 0)), (1, .int (nI x))] [.int (mI (sR K.1 ((x / 16) % (sP K.1)) ((x / 960) % 20)))] 186
      exact RT.1 _ _ _ _ _ dL_act_186 rfl rfl (⟨by rw [(by unfold actR; rw [if_neg (by omega : ¬ (x % 16 = 0)), if_neg (by omega : ¬ (x % 16 = 1)), if_pos (by omega : x % 16 < 5), if_neg (by omega : ¬ x / 19200 % 6 = 0)] : actR K x = (mI (sR K.1 ((x / 16) % (sP K.1)) ((x / 960) % 20)), (kDo K (oCast K.1 ((x / 16) % (sP K.1)) ((x / 96) % (sA K.1) + 1) ((x / 960) % 20)))))], by rw [(by unfold actR; rw [if_neg (by omega : ¬ (x % 16 = 0)), if_neg (by omega : ¬ (x % 16 = 1)), if_pos (by omega : x % 16 < 5), if_neg (by omega : ¬ x / 19200 % 6 = 0)] : actR K x = (mI (sR K.1 ((x / 16) % (sP K.1)) ((x / 960) % 20)), (kDo K (oCast K.1 ((x / 16) % (sP K.1)) ((x / 96) % (sA K.1) + 1) ((x / 960) % 20)))))]; exact hA22⟩) (hA22.fst.trans hA.fst.symm)
    · refine r_iconst C dL_act_175 ki_m1 ?_
      refine r_goto C 181 dL_act_176 (by decide) ?_
      refine r_iload C (i := 6) 0 dL_act_181 rfl ?_
      refine Ca.on hB.2.2.2 hB.2.1 (j := 0) (K := 0) (rest := []) (by omega) (cl_cast hst hA4 (n := (x / 960) % 20) (p := (x / 16) % (sP K.1)) (x := 0) (hp := (by omega)) (hn := (by omega)) (hx := (by omega))).l lk_L_call w_2_41 dL_act_183 rfl ⟨by decide, by decide⟩ (Nat.le_of_ble_eq_true rfl) ?_
      rintro _ w23 ⟨rfl, hA24⟩
      replace hA24 : Ark E α (kDo K (oCast K.1 ((x / 16) % (sP K.1)) 0 ((x / 960) % 20))) w23 := hA24
      show Ω 0 w23 [(6, .int (nI ((x / 960) % 20))), (5, .int (nI ((x / 96) % (sA K.1)))), (4, .int (nI ((x / 16) % (sP K.1)))), (3, .int (nI (sA K.1))), (2, .int (nI (sP K.1))), (0, .ref (α 0)), (1, .int (nI x))] [.int (mI (sR K.1 ((x / 16) % (sP K.1)) ((x / 960) % 20)))] 186
      exact RT.1 _ _ _ _ _ dL_act_186 rfl rfl (⟨by rw [(by unfold actR; rw [if_neg (by omega : ¬ (x % 16 = 0)), if_neg (by omega : ¬ (x % 16 = 1)), if_pos (by omega : x % 16 < 5), if_pos (by omega : x / 19200 % 6 = 0)] : actR K x = (mI (sR K.1 ((x / 16) % (sP K.1)) ((x / 960) % 20)), (kDo K (oCast K.1 ((x / 16) % (sP K.1)) 0 ((x / 960) % 20)))))], by rw [(by unfold actR; rw [if_neg (by omega : ¬ (x % 16 = 0)), if_neg (by omega : ¬ (x % 16 = 1)), if_pos (by omega : x % 16 < 5), if_pos (by omega : x / 19200 % 6 = 0)] : actR K x = (mI (sR K.1 ((x / 16) % (sP K.1)) ((x / 960) % 20)), (kDo K (oCast K.1 ((x / 16) % (sP K.1)) 0 ((x / 960) % 20)))))]; exact hA24⟩) (hA24.fst.trans hA.fst.symm)
  · refine r_st (st' := [.int (nI 5)]) (by rw [h16]) ?_
    refine r_tabIn (off := 139) C 187 dL_act_48 (by decide) (by decide) (by decide) (by decide) ?_
    refine r_aload_n C (i := 0) 5 dL_act_187 rfl rfl ?_
    refine r_bipush C dL_act_188 kb_13 ?_
    refine r_iload C (i := 4) 2 dL_act_190 rfl ?_
    refine r_iload C (i := 5) 1 dL_act_192 rfl ?_
    refine r_iconst C dL_act_194 ki_0 ?_
    refine Ca.on hB.2.2.2 hB.2.1 (j := 0) (K := 1) (rest := []) (by omega) (ct_study hst hA4 (a := (x / 96) % (sA K.1)) (p := (x / 16) % (sP K.1)) (hp := (by omega)) (ha := (by omega))) lk_L_call w_2_41 dL_act_195 rfl ⟨by decide, by decide⟩ (Nat.le_of_ble_eq_true rfl) ?_
    rintro _ w25 ⟨rfl, hA26⟩
    have C := hB.1 1 (by omega)
    have RT := hB.2.2.1 1 (by omega)
    show Ω 1 w25 [(6, .int (nI ((x / 960) % 20))), (5, .int (nI ((x / 96) % (sA K.1)))), (4, .int (nI ((x / 16) % (sP K.1)))), (3, .int (nI (sA K.1))), (2, .int (nI (sP K.1))), (0, .ref (α 0)), (1, .int (nI x))] [.int ((rStudy K ((x / 16) % (sP K.1)) ((x / 96) % (sA K.1))).1)] 198
    exact RT.1 _ _ _ _ _ dL_act_198 rfl rfl (⟨by rw [(by unfold actR; rw [if_neg (by omega : ¬ (x % 16 = 0)), if_neg (by omega : ¬ (x % 16 = 1)), if_neg (by omega : ¬ (x % 16 < 5)), if_pos (by omega : x % 16 < 7)] : actR K x = (((rStudy K ((x / 16) % (sP K.1)) ((x / 96) % (sA K.1))).1), ((rStudy K ((x / 16) % (sP K.1)) ((x / 96) % (sA K.1))).2)))], by rw [(by unfold actR; rw [if_neg (by omega : ¬ (x % 16 = 0)), if_neg (by omega : ¬ (x % 16 = 1)), if_neg (by omega : ¬ (x % 16 < 5)), if_pos (by omega : x % 16 < 7)] : actR K x = (((rStudy K ((x / 16) % (sP K.1)) ((x / 96) % (sA K.1))).1), ((rStudy K ((x / 16) % (sP K.1)) ((x / 96) % (sA K.1))).2)))]; exact hA26⟩) (hA26.fst.trans hA.fst.symm)
  · refine r_st (st' := [.int (nI 6)]) (by rw [h16]) ?_
    refine r_tabIn (off := 139) C 187 dL_act_48 (by decide) (by decide) (by decide) (by decide) ?_
    refine r_aload_n C (i := 0) 5 dL_act_187 rfl rfl ?_
    refine r_bipush C dL_act_188 kb_13 ?_
    refine r_iload C (i := 4) 2 dL_act_190 rfl ?_
    refine r_iload C (i := 5) 1 dL_act_192 rfl ?_
    refine r_iconst C dL_act_194 ki_0 ?_
    refine Ca.on hB.2.2.2 hB.2.1 (j := 0) (K := 1) (rest := []) (by omega) (ct_study hst hA4 (a := (x / 96) % (sA K.1)) (p := (x / 16) % (sP K.1)) (hp := (by omega)) (ha := (by omega))) lk_L_call w_2_41 dL_act_195 rfl ⟨by decide, by decide⟩ (Nat.le_of_ble_eq_true rfl) ?_
    rintro _ w27 ⟨rfl, hA28⟩
    have C := hB.1 1 (by omega)
    have RT := hB.2.2.1 1 (by omega)
    show Ω 1 w27 [(6, .int (nI ((x / 960) % 20))), (5, .int (nI ((x / 96) % (sA K.1)))), (4, .int (nI ((x / 16) % (sP K.1)))), (3, .int (nI (sA K.1))), (2, .int (nI (sP K.1))), (0, .ref (α 0)), (1, .int (nI x))] [.int ((rStudy K ((x / 16) % (sP K.1)) ((x / 96) % (sA K.1))).1)] 198
    exact RT.1 _ _ _ _ _ dL_act_198 rfl rfl (⟨by rw [(by unfold actR; rw [if_neg (by omega : ¬ (x % 16 = 0)), if_neg (by omega : ¬ (x % 16 = 1)), if_neg (by omega : ¬ (x % 16 < 5)), if_pos (by omega : x % 16 < 7)] : actR K x = (((rStudy K ((x / 16) % (sP K.1)) ((x / 96) % (sA K.1))).1), ((rStudy K ((x / 16) % (sP K.1)) ((x / 96) % (sA K.1))).2)))], by rw [(by unfold actR; rw [if_neg (by omega : ¬ (x % 16 = 0)), if_neg (by omega : ¬ (x % 16 = 1)), if_neg (by omega : ¬ (x % 16 < 5)), if_pos (by omega : x % 16 < 7)] : actR K x = (((rStudy K ((x / 16) % (sP K.1)) ((x / 96) % (sA K.1))).1), ((rStudy K ((x / 16) % (sP K.1)) ((x / 96) % (sA K.1))).2)))]; exact hA28⟩) (hA28.fst.trans hA.fst.symm)
  · refine r_st (st' := [.int (nI 7)]) (by rw [h16]) ?_
    refine r_tabIn (off := 151) C 199 dL_act_48 (by decide) (by decide) (by decide) (by decide) ?_
    refine r_aload_n C (i := 0) 5 dL_act_199 rfl rfl ?_
    refine r_bipush C dL_act_200 kb_14 ?_
    refine r_iload C (i := 4) 2 dL_act_202 rfl ?_
    refine r_iload C (i := 5) 1 dL_act_204 rfl ?_
    refine r_iconst C dL_act_206 ki_0 ?_
    refine Ca.on hB.2.2.2 hB.2.1 (j := 0) (K := 1) (rest := []) (by omega) (ct_release hst hA4 (a := (x / 96) % (sA K.1)) (p := (x / 16) % (sP K.1)) (hp := (by omega)) (ha := (by omega))) lk_L_call w_2_41 dL_act_207 rfl ⟨by decide, by decide⟩ (Nat.le_of_ble_eq_true rfl) ?_
    rintro _ w29 ⟨rfl, hA30⟩
    have C := hB.1 1 (by omega)
    have RT := hB.2.2.1 1 (by omega)
    show Ω 1 w29 [(6, .int (nI ((x / 960) % 20))), (5, .int (nI ((x / 96) % (sA K.1)))), (4, .int (nI ((x / 16) % (sP K.1)))), (3, .int (nI (sA K.1))), (2, .int (nI (sP K.1))), (0, .ref (α 0)), (1, .int (nI x))] [.int ((rRel K ((x / 16) % (sP K.1)) ((x / 96) % (sA K.1))).1)] 210
    exact RT.1 _ _ _ _ _ dL_act_210 rfl rfl (⟨by rw [(by unfold actR; rw [if_neg (by omega : ¬ (x % 16 = 0)), if_neg (by omega : ¬ (x % 16 = 1)), if_neg (by omega : ¬ (x % 16 < 5)), if_neg (by omega : ¬ (x % 16 < 7)), if_pos (by omega : x % 16 = 7)] : actR K x = (((rRel K ((x / 16) % (sP K.1)) ((x / 96) % (sA K.1))).1), ((rRel K ((x / 16) % (sP K.1)) ((x / 96) % (sA K.1))).2)))], by rw [(by unfold actR; rw [if_neg (by omega : ¬ (x % 16 = 0)), if_neg (by omega : ¬ (x % 16 = 1)), if_neg (by omega : ¬ (x % 16 < 5)), if_neg (by omega : ¬ (x % 16 < 7)), if_pos (by omega : x % 16 = 7)] : actR K x = (((rRel K ((x / 16) % (sP K.1)) ((x / 96) % (sA K.1))).1), ((rRel K ((x / 16) % (sP K.1)) ((x / 96) % (sA K.1))).2)))]; exact hA30⟩) (hA30.fst.trans hA.fst.symm)
  · refine r_st (st' := [.int (nI 8)]) (by rw [h16]) ?_
    refine r_tabIn (off := 163) C 211 dL_act_48 (by decide) (by decide) (by decide) (by decide) ?_
    refine r_aload_n C (i := 0) 5 dL_act_211 rfl rfl ?_
    refine r_iload C (i := 5) 1 dL_act_212 rfl ?_
    refine r_iload C (i := 6) 0 dL_act_214 rfl ?_
    refine r_iload_n C (i := 1) 6 dL_act_216 rfl rfl ?_
    refine r_sipush C dL_act_217 ks_19200 ?_
    refine r_idiv (v := nI (x / 19200)) C dL_act_220 (v_nz (by omega) (by omega)) (v_div (by omega) (by omega) (by omega)) ?_
    refine r_iconst C dL_act_221 ki_3 ?_
    refine r_irem (v := nI ((x / 19200) % 3)) C dL_act_222 (v_nz (by omega) (by omega)) (v_rem (by omega) (by omega) (by omega)) ?_
    refine r_if_le C (y := 0) (c9 := (x / 19200) % 3 = 0) 230 dL_act_223 (by decide) (z_leN (by omega)) (fun h223_31 => ?_) (fun h223_31 => ?_)
    · refine r_iconst C dL_act_230 ki_0 ?_
      refine Ca.on hB.2.2.2 hB.2.1 (j := 0) (K := 0) (rest := []) (by omega) (t_ill hst hA4 (a := (x / 96) % (sA K.1)) (k := 0) (n := (x / 960) % 20) (ha := (by omega)) (hn := (by omega)) (hk := (by omega))).l lk_L_setIll w_1_159 dL_act_231 rfl ⟨by decide, by decide⟩ (Nat.le_of_ble_eq_true rfl) ?_
      rintro _ w32 ⟨rfl, hA33⟩
      replace hA33 : Ark E α (kDo K (oIll K.1 ((x / 96) % (sA K.1)) ((x / 960) % 20) 0)) w32 := hA33
      show Ω 0 w32 [(6, .int (nI ((x / 960) % 20))), (5, .int (nI ((x / 96) % (sA K.1)))), (4, .int (nI ((x / 16) % (sP K.1)))), (3, .int (nI (sA K.1))), (2, .int (nI (sP K.1))), (0, .ref (α 0)), (1, .int (nI x))] [.int (nI (cntI (oIll K.1 ((x / 96) % (sA K.1)) ((x / 960) % 20) 0) ((x / 96) % (sA K.1)) 20))] 234
      exact RT.1 _ _ _ _ _ dL_act_234 rfl rfl (⟨by rw [(by unfold actR; rw [if_neg (by omega : ¬ (x % 16 = 0)), if_neg (by omega : ¬ (x % 16 = 1)), if_neg (by omega : ¬ (x % 16 < 5)), if_neg (by omega : ¬ (x % 16 < 7)), if_neg (by omega : ¬ (x % 16 = 7)), if_pos (by omega : x % 16 < 10), show (if x / 19200 % 3 = 0 then 0 else 1) = 0 from if_pos (by omega)] : actR K x = (nI (cntI (oIll K.1 ((x / 96) % (sA K.1)) ((x / 960) % 20) 0) ((x / 96) % (sA K.1)) 20), (kDo K (oIll K.1 ((x / 96) % (sA K.1)) ((x / 960) % 20) 0))))], by rw [(by unfold actR; rw [if_neg (by omega : ¬ (x % 16 = 0)), if_neg (by omega : ¬ (x % 16 = 1)), if_neg (by omega : ¬ (x % 16 < 5)), if_neg (by omega : ¬ (x % 16 < 7)), if_neg (by omega : ¬ (x % 16 = 7)), if_pos (by omega : x % 16 < 10), show (if x / 19200 % 3 = 0 then 0 else 1) = 0 from if_pos (by omega)] : actR K x = (nI (cntI (oIll K.1 ((x / 96) % (sA K.1)) ((x / 960) % 20) 0) ((x / 96) % (sA K.1)) 20), (kDo K (oIll K.1 ((x / 96) % (sA K.1)) ((x / 960) % 20) 0))))]; exact hA33⟩) (hA33.fst.trans hA.fst.symm)
    · refine r_iconst C dL_act_226 ki_1 ?_
      refine r_goto C 231 dL_act_227 (by decide) ?_
      refine Ca.on hB.2.2.2 hB.2.1 (j := 0) (K := 0) (rest := []) (by omega) (t_ill hst hA4 (a := (x / 96) % (sA K.1)) (k := 1) (n := (x / 960) % 20) (ha := (by omega)) (hn := (by omega)) (hk := (by omega))).l lk_L_setIll w_1_159 dL_act_231 rfl ⟨by decide, by decide⟩ (Nat.le_of_ble_eq_true rfl) ?_
      rintro _ w34 ⟨rfl, hA35⟩
      replace hA35 : Ark E α (kDo K (oIll K.1 ((x / 96) % (sA K.1)) ((x / 960) % 20) 1)) w34 := hA35
      show Ω 0 w34 [(6, .int (nI ((x / 960) % 20))), (5, .int (nI ((x / 96) % (sA K.1)))), (4, .int (nI ((x / 16) % (sP K.1)))), (3, .int (nI (sA K.1))), (2, .int (nI (sP K.1))), (0, .ref (α 0)), (1, .int (nI x))] [.int (nI (cntI (oIll K.1 ((x / 96) % (sA K.1)) ((x / 960) % 20) 1) ((x / 96) % (sA K.1)) 20))] 234
      exact RT.1 _ _ _ _ _ dL_act_234 rfl rfl (⟨by rw [(by unfold actR; rw [if_neg (by omega : ¬ (x % 16 = 0)), if_neg (by omega : ¬ (x % 16 = 1)), if_neg (by omega : ¬ (x % 16 < 5)), if_neg (by omega : ¬ (x % 16 < 7)), if_neg (by omega : ¬ (x % 16 = 7)), if_pos (by omega : x % 16 < 10), show (if x / 19200 % 3 = 0 then 0 else 1) = 1 from if_neg (by omega)] : actR K x = (nI (cntI (oIll K.1 ((x / 96) % (sA K.1)) ((x / 960) % 20) 1) ((x / 96) % (sA K.1)) 20), (kDo K (oIll K.1 ((x / 96) % (sA K.1)) ((x / 960) % 20) 1))))], by rw [(by unfold actR; rw [if_neg (by omega : ¬ (x % 16 = 0)), if_neg (by omega : ¬ (x % 16 = 1)), if_neg (by omega : ¬ (x % 16 < 5)), if_neg (by omega : ¬ (x % 16 < 7)), if_neg (by omega : ¬ (x % 16 = 7)), if_pos (by omega : x % 16 < 10), show (if x / 19200 % 3 = 0 then 0 else 1) = 1 from if_neg (by omega)] : actR K x = (nI (cntI (oIll K.1 ((x / 96) % (sA K.1)) ((x / 960) % 20) 1) ((x / 96) % (sA K.1)) 20), (kDo K (oIll K.1 ((x / 96) % (sA K.1)) ((x / 960) % 20) 1))))]; exact hA35⟩) (hA35.fst.trans hA.fst.symm)
  · refine r_st (st' := [.int (nI 9)]) (by rw [h16]) ?_
    refine r_tabIn (off := 163) C 211 dL_act_48 (by decide) (by decide) (by decide) (by decide) ?_
    refine r_aload_n C (i := 0) 5 dL_act_211 rfl rfl ?_
    refine r_iload C (i := 5) 1 dL_act_212 rfl ?_
    refine r_iload C (i := 6) 0 dL_act_214 rfl ?_
    refine r_iload_n C (i := 1) 6 dL_act_216 rfl rfl ?_
    refine r_sipush C dL_act_217 ks_19200 ?_
    refine r_idiv (v := nI (x / 19200)) C dL_act_220 (v_nz (by omega) (by omega)) (v_div (by omega) (by omega) (by omega)) ?_
    refine r_iconst C dL_act_221 ki_3 ?_
    refine r_irem (v := nI ((x / 19200) % 3)) C dL_act_222 (v_nz (by omega) (by omega)) (v_rem (by omega) (by omega) (by omega)) ?_
    refine r_if_le C (y := 0) (c9 := (x / 19200) % 3 = 0) 230 dL_act_223 (by decide) (z_leN (by omega)) (fun h223_36 => ?_) (fun h223_36 => ?_)
    · refine r_iconst C dL_act_230 ki_0 ?_
      refine Ca.on hB.2.2.2 hB.2.1 (j := 0) (K := 0) (rest := []) (by omega) (t_ill hst hA4 (a := (x / 96) % (sA K.1)) (k := 0) (n := (x / 960) % 20) (ha := (by omega)) (hn := (by omega)) (hk := (by omega))).l lk_L_setIll w_1_159 dL_act_231 rfl ⟨by decide, by decide⟩ (Nat.le_of_ble_eq_true rfl) ?_
      rintro _ w37 ⟨rfl, hA38⟩
      replace hA38 : Ark E α (kDo K (oIll K.1 ((x / 96) % (sA K.1)) ((x / 960) % 20) 0)) w37 := hA38
      show Ω 0 w37 [(6, .int (nI ((x / 960) % 20))), (5, .int (nI ((x / 96) % (sA K.1)))), (4, .int (nI ((x / 16) % (sP K.1)))), (3, .int (nI (sA K.1))), (2, .int (nI (sP K.1))), (0, .ref (α 0)), (1, .int (nI x))] [.int (nI (cntI (oIll K.1 ((x / 96) % (sA K.1)) ((x / 960) % 20) 0) ((x / 96) % (sA K.1)) 20))] 234
      exact RT.1 _ _ _ _ _ dL_act_234 rfl rfl (⟨by rw [(by unfold actR; rw [if_neg (by omega : ¬ (x % 16 = 0)), if_neg (by omega : ¬ (x % 16 = 1)), if_neg (by omega : ¬ (x % 16 < 5)), if_neg (by omega : ¬ (x % 16 < 7)), if_neg (by omega : ¬ (x % 16 = 7)), if_pos (by omega : x % 16 < 10), show (if x / 19200 % 3 = 0 then 0 else 1) = 0 from if_pos (by omega)] : actR K x = (nI (cntI (oIll K.1 ((x / 96) % (sA K.1)) ((x / 960) % 20) 0) ((x / 96) % (sA K.1)) 20), (kDo K (oIll K.1 ((x / 96) % (sA K.1)) ((x / 960) % 20) 0))))], by rw [(by unfold actR; rw [if_neg (by omega : ¬ (x % 16 = 0)), if_neg (by omega : ¬ (x % 16 = 1)), if_neg (by omega : ¬ (x % 16 < 5)), if_neg (by omega : ¬ (x % 16 < 7)), if_neg (by omega : ¬ (x % 16 = 7)), if_pos (by omega : x % 16 < 10), show (if x / 19200 % 3 = 0 then 0 else 1) = 0 from if_pos (by omega)] : actR K x = (nI (cntI (oIll K.1 ((x / 96) % (sA K.1)) ((x / 960) % 20) 0) ((x / 96) % (sA K.1)) 20), (kDo K (oIll K.1 ((x / 96) % (sA K.1)) ((x / 960) % 20) 0))))]; exact hA38⟩) (hA38.fst.trans hA.fst.symm)
    · refine r_iconst C dL_act_226 ki_1 ?_
      refine r_goto C 231 dL_act_227 (by decide) ?_
      refine Ca.on hB.2.2.2 hB.2.1 (j := 0) (K := 0) (rest := []) (by omega) (t_ill hst hA4 (a := (x / 96) % (sA K.1)) (k := 1) (n := (x / 960) % 20) (ha := (by omega)) (hn := (by omega)) (hk := (by omega))).l lk_L_setIll w_1_159 dL_act_231 rfl ⟨by decide, by decide⟩ (Nat.le_of_ble_eq_true rfl) ?_
      rintro _ w39 ⟨rfl, hA40⟩
      replace hA40 : Ark E α (kDo K (oIll K.1 ((x / 96) % (sA K.1)) ((x / 960) % 20) 1)) w39 := hA40
      show Ω 0 w39 [(6, .int (nI ((x / 960) % 20))), (5, .int (nI ((x / 96) % (sA K.1)))), (4, .int (nI ((x / 16) % (sP K.1)))), (3, .int (nI (sA K.1))), (2, .int (nI (sP K.1))), (0, .ref (α 0)), (1, .int (nI x))] [.int (nI (cntI (oIll K.1 ((x / 96) % (sA K.1)) ((x / 960) % 20) 1) ((x / 96) % (sA K.1)) 20))] 234
      exact RT.1 _ _ _ _ _ dL_act_234 rfl rfl (⟨by rw [(by unfold actR; rw [if_neg (by omega : ¬ (x % 16 = 0)), if_neg (by omega : ¬ (x % 16 = 1)), if_neg (by omega : ¬ (x % 16 < 5)), if_neg (by omega : ¬ (x % 16 < 7)), if_neg (by omega : ¬ (x % 16 = 7)), if_pos (by omega : x % 16 < 10), show (if x / 19200 % 3 = 0 then 0 else 1) = 1 from if_neg (by omega)] : actR K x = (nI (cntI (oIll K.1 ((x / 96) % (sA K.1)) ((x / 960) % 20) 1) ((x / 96) % (sA K.1)) 20), (kDo K (oIll K.1 ((x / 96) % (sA K.1)) ((x / 960) % 20) 1))))], by rw [(by unfold actR; rw [if_neg (by omega : ¬ (x % 16 = 0)), if_neg (by omega : ¬ (x % 16 = 1)), if_neg (by omega : ¬ (x % 16 < 5)), if_neg (by omega : ¬ (x % 16 < 7)), if_neg (by omega : ¬ (x % 16 = 7)), if_pos (by omega : x % 16 < 10), show (if x / 19200 % 3 = 0 then 0 else 1) = 1 from if_neg (by omega)] : actR K x = (nI (cntI (oIll K.1 ((x / 96) % (sA K.1)) ((x / 960) % 20) 1) ((x / 96) % (sA K.1)) 20), (kDo K (oIll K.1 ((x / 96) % (sA K.1)) ((x / 960) % 20) 1))))]; exact hA40⟩) (hA40.fst.trans hA.fst.symm)
  · refine r_st (st' := [.int (nI 10)]) (by rw [h16]) ?_
    refine r_tabIn (off := 187) C 235 dL_act_48 (by decide) (by decide) (by decide) (by decide) ?_
    refine r_aload_n C (i := 0) 5 dL_act_235 rfl rfl ?_
    refine r_iload C (i := 6) 0 dL_act_236 rfl ?_
    refine r_iload C (i := 4) 2 dL_act_238 rfl ?_
    refine r_iload C (i := 5) 1 dL_act_240 rfl ?_
    refine r_iload_n C (i := 1) 6 dL_act_242 rfl rfl ?_
    refine r_sipush C dL_act_243 ks_19200 ?_
    refine r_idiv (v := nI (x / 19200)) C dL_act_246 (v_nz (by omega) (by omega)) (v_div (by omega) (by omega) (by omega)) ?_
    refine r_bipush C dL_act_247 kb_24 ?_
    refine r_irem (v := nI ((x / 19200) % 24)) C dL_act_249 (v_nz (by omega) (by omega)) (v_rem (by omega) (by omega) (by omega)) ?_
    refine Ca.on hB.2.2.2 hB.2.1 (j := 0) (K := 1) (rest := []) (by omega) (ct_slip hst hA4 (a := (x / 96) % (sA K.1)) (k := (x / 19200) % 24) (n := (x / 960) % 20) (p := (x / 16) % (sP K.1)) (hn := (by omega)) (hp := (by omega)) (ha := (by omega)) (hk := (by omega))) lk_L_addSlip w_5_2 dL_act_250 rfl ⟨by decide, by decide⟩ (Nat.le_of_ble_eq_true rfl) ?_
    rintro _ w41 ⟨rfl, hA42⟩
    have C := hB.1 1 (by omega)
    have RT := hB.2.2.1 1 (by omega)
    show Ω 1 w41 [(6, .int (nI ((x / 960) % 20))), (5, .int (nI ((x / 96) % (sA K.1)))), (4, .int (nI ((x / 16) % (sP K.1)))), (3, .int (nI (sA K.1))), (2, .int (nI (sP K.1))), (0, .ref (α 0)), (1, .int (nI x))] [.int ((rSlip K ((x / 960) % 20) ((x / 16) % (sP K.1)) ((x / 96) % (sA K.1)) ((x / 19200) % 24)).1)] 253
    exact RT.1 _ _ _ _ _ dL_act_253 rfl rfl (⟨by rw [(by unfold actR; rw [if_neg (by omega : ¬ (x % 16 = 0)), if_neg (by omega : ¬ (x % 16 = 1)), if_neg (by omega : ¬ (x % 16 < 5)), if_neg (by omega : ¬ (x % 16 < 7)), if_neg (by omega : ¬ (x % 16 = 7)), if_neg (by omega : ¬ (x % 16 < 10)), if_pos (by omega : x % 16 < 12)] : actR K x = (((rSlip K ((x / 960) % 20) ((x / 16) % (sP K.1)) ((x / 96) % (sA K.1)) ((x / 19200) % 24)).1), ((rSlip K ((x / 960) % 20) ((x / 16) % (sP K.1)) ((x / 96) % (sA K.1)) ((x / 19200) % 24)).2)))], by rw [(by unfold actR; rw [if_neg (by omega : ¬ (x % 16 = 0)), if_neg (by omega : ¬ (x % 16 = 1)), if_neg (by omega : ¬ (x % 16 < 5)), if_neg (by omega : ¬ (x % 16 < 7)), if_neg (by omega : ¬ (x % 16 = 7)), if_neg (by omega : ¬ (x % 16 < 10)), if_pos (by omega : x % 16 < 12)] : actR K x = (((rSlip K ((x / 960) % 20) ((x / 16) % (sP K.1)) ((x / 96) % (sA K.1)) ((x / 19200) % 24)).1), ((rSlip K ((x / 960) % 20) ((x / 16) % (sP K.1)) ((x / 96) % (sA K.1)) ((x / 19200) % 24)).2)))]; exact hA42⟩) (hA42.fst.trans hA.fst.symm)
  · refine r_st (st' := [.int (nI 11)]) (by rw [h16]) ?_
    refine r_tabIn (off := 187) C 235 dL_act_48 (by decide) (by decide) (by decide) (by decide) ?_
    refine r_aload_n C (i := 0) 5 dL_act_235 rfl rfl ?_
    refine r_iload C (i := 6) 0 dL_act_236 rfl ?_
    refine r_iload C (i := 4) 2 dL_act_238 rfl ?_
    refine r_iload C (i := 5) 1 dL_act_240 rfl ?_
    refine r_iload_n C (i := 1) 6 dL_act_242 rfl rfl ?_
    refine r_sipush C dL_act_243 ks_19200 ?_
    refine r_idiv (v := nI (x / 19200)) C dL_act_246 (v_nz (by omega) (by omega)) (v_div (by omega) (by omega) (by omega)) ?_
    refine r_bipush C dL_act_247 kb_24 ?_
    refine r_irem (v := nI ((x / 19200) % 24)) C dL_act_249 (v_nz (by omega) (by omega)) (v_rem (by omega) (by omega) (by omega)) ?_
    refine Ca.on hB.2.2.2 hB.2.1 (j := 0) (K := 1) (rest := []) (by omega) (ct_slip hst hA4 (a := (x / 96) % (sA K.1)) (k := (x / 19200) % 24) (n := (x / 960) % 20) (p := (x / 16) % (sP K.1)) (hn := (by omega)) (hp := (by omega)) (ha := (by omega)) (hk := (by omega))) lk_L_addSlip w_5_2 dL_act_250 rfl ⟨by decide, by decide⟩ (Nat.le_of_ble_eq_true rfl) ?_
    rintro _ w43 ⟨rfl, hA44⟩
    have C := hB.1 1 (by omega)
    have RT := hB.2.2.1 1 (by omega)
    show Ω 1 w43 [(6, .int (nI ((x / 960) % 20))), (5, .int (nI ((x / 96) % (sA K.1)))), (4, .int (nI ((x / 16) % (sP K.1)))), (3, .int (nI (sA K.1))), (2, .int (nI (sP K.1))), (0, .ref (α 0)), (1, .int (nI x))] [.int ((rSlip K ((x / 960) % 20) ((x / 16) % (sP K.1)) ((x / 96) % (sA K.1)) ((x / 19200) % 24)).1)] 253
    exact RT.1 _ _ _ _ _ dL_act_253 rfl rfl (⟨by rw [(by unfold actR; rw [if_neg (by omega : ¬ (x % 16 = 0)), if_neg (by omega : ¬ (x % 16 = 1)), if_neg (by omega : ¬ (x % 16 < 5)), if_neg (by omega : ¬ (x % 16 < 7)), if_neg (by omega : ¬ (x % 16 = 7)), if_neg (by omega : ¬ (x % 16 < 10)), if_pos (by omega : x % 16 < 12)] : actR K x = (((rSlip K ((x / 960) % 20) ((x / 16) % (sP K.1)) ((x / 96) % (sA K.1)) ((x / 19200) % 24)).1), ((rSlip K ((x / 960) % 20) ((x / 16) % (sP K.1)) ((x / 96) % (sA K.1)) ((x / 19200) % 24)).2)))], by rw [(by unfold actR; rw [if_neg (by omega : ¬ (x % 16 = 0)), if_neg (by omega : ¬ (x % 16 = 1)), if_neg (by omega : ¬ (x % 16 < 5)), if_neg (by omega : ¬ (x % 16 < 7)), if_neg (by omega : ¬ (x % 16 = 7)), if_neg (by omega : ¬ (x % 16 < 10)), if_pos (by omega : x % 16 < 12)] : actR K x = (((rSlip K ((x / 960) % 20) ((x / 16) % (sP K.1)) ((x / 96) % (sA K.1)) ((x / 19200) % 24)).1), ((rSlip K ((x / 960) % 20) ((x / 16) % (sP K.1)) ((x / 96) % (sA K.1)) ((x / 19200) % 24)).2)))]; exact hA44⟩) (hA44.fst.trans hA.fst.symm)
  · refine r_st (st' := [.int (nI 12)]) (by rw [h16]) ?_
    refine r_tabIn (off := 206) C 254 dL_act_48 (by decide) (by decide) (by decide) (by decide) ?_
    refine r_aload_n C (i := 0) 5 dL_act_254 rfl rfl ?_
    refine r_bipush C dL_act_255 kb_15 ?_
    refine r_iload_n C (i := 1) 6 dL_act_257 rfl rfl ?_
    refine r_bipush C dL_act_258 kb_16 ?_
    refine r_idiv (v := nI (x / 16)) C dL_act_260 (v_nz (by omega) (by omega)) (v_div (by omega) (by omega) (by omega)) ?_
    refine r_bipush C dL_act_261 kb_20 ?_
    refine r_irem (v := nI ((x / 16) % 20)) C dL_act_263 (v_nz (by omega) (by omega)) (v_rem (by omega) (by omega) (by omega)) ?_
    refine r_iconst C dL_act_264 ki_0 ?_
    refine r_iconst C dL_act_265 ki_0 ?_
    refine Ca.on hB.2.2.2 hB.2.1 (j := 0) (K := 1) (rest := []) (by omega) (ct_lose hst hA4 (k := (x / 16) % 20) (hk := (by omega))) lk_L_call w_2_41 dL_act_266 rfl ⟨by decide, by decide⟩ (Nat.le_of_ble_eq_true rfl) ?_
    rintro _ w45 ⟨rfl, hA46⟩
    have C := hB.1 1 (by omega)
    have RT := hB.2.2.1 1 (by omega)
    show Ω 1 w45 [(6, .int (nI ((x / 960) % 20))), (5, .int (nI ((x / 96) % (sA K.1)))), (4, .int (nI ((x / 16) % (sP K.1)))), (3, .int (nI (sA K.1))), (2, .int (nI (sP K.1))), (0, .ref (α 0)), (1, .int (nI x))] [.int ((rLose K ((x / 16) % 20)).1)] 269
    exact RT.1 _ _ _ _ _ dL_act_269 rfl rfl (⟨by rw [(by unfold actR; rw [if_neg (by omega : ¬ (x % 16 = 0)), if_neg (by omega : ¬ (x % 16 = 1)), if_neg (by omega : ¬ (x % 16 < 5)), if_neg (by omega : ¬ (x % 16 < 7)), if_neg (by omega : ¬ (x % 16 = 7)), if_neg (by omega : ¬ (x % 16 < 10)), if_neg (by omega : ¬ (x % 16 < 12)), if_pos (by omega : x % 16 = 12)] : actR K x = (((rLose K ((x / 16) % 20)).1), ((rLose K ((x / 16) % 20)).2)))], by rw [(by unfold actR; rw [if_neg (by omega : ¬ (x % 16 = 0)), if_neg (by omega : ¬ (x % 16 = 1)), if_neg (by omega : ¬ (x % 16 < 5)), if_neg (by omega : ¬ (x % 16 < 7)), if_neg (by omega : ¬ (x % 16 = 7)), if_neg (by omega : ¬ (x % 16 < 10)), if_neg (by omega : ¬ (x % 16 < 12)), if_pos (by omega : x % 16 = 12)] : actR K x = (((rLose K ((x / 16) % 20)).1), ((rLose K ((x / 16) % 20)).2)))]; exact hA46⟩) (hA46.fst.trans hA.fst.symm)
  · refine r_st (st' := [.int (nI 13)]) (by rw [h16]) ?_
    refine r_tabIn (off := 222) C 270 dL_act_48 (by decide) (by decide) (by decide) (by decide) ?_
    refine r_iload_n C (i := 2) 4 dL_act_270 rfl rfl ?_
    refine r_iconst C dL_act_271 ki_2 ?_
    refine r_icmp_lt C (c9 := sP K.1 < 2) 280 dL_act_272 (by decide) (c_ltNN (by omega) (by omega)) (fun h272_47 => ?_) (fun h272_47 => ?_)
    · refine r_aload_n C (i := 0) 5 dL_act_280 rfl rfl ?_
      refine r_bipush C dL_act_281 kb_16 ?_
      refine r_iload_n C (i := 1) 6 dL_act_283 rfl rfl ?_
      refine r_bipush C dL_act_284 kb_16 ?_
      refine r_idiv (v := nI (x / 16)) C dL_act_286 (v_nz (by omega) (by omega)) (v_div (by omega) (by omega) (by omega)) ?_
      refine r_iconst C dL_act_287 ki_2 ?_
      refine r_irem (v := nI ((x / 16) % 2)) C dL_act_288 (v_nz (by omega) (by omega)) (v_rem (by omega) (by omega) (by omega)) ?_
      refine r_iload_n C (i := 1) 6 dL_act_289 rfl rfl ?_
      refine r_bipush C dL_act_290 kb_32 ?_
      refine r_idiv (v := nI (x / 32)) C dL_act_292 (v_nz (by omega) (by omega)) (v_div (by omega) (by omega) (by omega)) ?_
      refine r_bipush C dL_act_293 kb_12 ?_
      refine r_irem (v := nI ((x / 32) % 12)) C dL_act_295 (v_nz (by omega) (by omega)) (v_rem (by omega) (by omega) (by omega)) ?_
      refine r_iconst C dL_act_296 ki_0 ?_
      refine Ca.on hB.2.2.2 hB.2.1 (j := 0) (K := 1) (rest := []) (by omega) (ct_lay hst hA4 (v := (x / 32) % 12) (x := (x / 16) % 2) (hx := (by omega)) (hv := (by omega))) lk_L_call w_2_41 dL_act_297 rfl ⟨by decide, by decide⟩ (Nat.le_of_ble_eq_true rfl) ?_
      rintro _ w48 ⟨rfl, hA49⟩
      have C := hB.1 1 (by omega)
      have RT := hB.2.2.1 1 (by omega)
      show Ω 1 w48 [(6, .int (nI ((x / 960) % 20))), (5, .int (nI ((x / 96) % (sA K.1)))), (4, .int (nI ((x / 16) % (sP K.1)))), (3, .int (nI (sA K.1))), (2, .int (nI (sP K.1))), (0, .ref (α 0)), (1, .int (nI x))] [.int ((rLay K ((x / 16) % 2) ((x / 32) % 12)).1)] 300
      refine r_goto C 312 dL_act_300 (by decide) ?_
      exact RT.1 _ _ _ _ _ dL_act_312 rfl rfl (⟨by rw [(by unfold actR; rw [if_neg (by omega : ¬ (x % 16 = 0)), if_neg (by omega : ¬ (x % 16 = 1)), if_neg (by omega : ¬ (x % 16 < 5)), if_neg (by omega : ¬ (x % 16 < 7)), if_neg (by omega : ¬ (x % 16 = 7)), if_neg (by omega : ¬ (x % 16 < 10)), if_neg (by omega : ¬ (x % 16 < 12)), if_neg (by omega : ¬ (x % 16 = 12)), if_pos (by omega : x % 16 = 13), if_pos (by omega : sP K.1 < 2 ∨ sA K.1 < 3)] : actR K x = (((rLay K ((x / 16) % 2) ((x / 32) % 12)).1), ((rLay K ((x / 16) % 2) ((x / 32) % 12)).2)))], by rw [(by unfold actR; rw [if_neg (by omega : ¬ (x % 16 = 0)), if_neg (by omega : ¬ (x % 16 = 1)), if_neg (by omega : ¬ (x % 16 < 5)), if_neg (by omega : ¬ (x % 16 < 7)), if_neg (by omega : ¬ (x % 16 = 7)), if_neg (by omega : ¬ (x % 16 < 10)), if_neg (by omega : ¬ (x % 16 < 12)), if_neg (by omega : ¬ (x % 16 = 12)), if_pos (by omega : x % 16 = 13), if_pos (by omega : sP K.1 < 2 ∨ sA K.1 < 3)] : actR K x = (((rLay K ((x / 16) % 2) ((x / 32) % 12)).1), ((rLay K ((x / 16) % 2) ((x / 32) % 12)).2)))]; exact hA49⟩) (hA49.fst.trans hA.fst.symm)
    · refine r_iload_n C (i := 3) 3 dL_act_275 rfl rfl ?_
      refine r_iconst C dL_act_276 ki_3 ?_
      refine r_icmp_ge C (c9 := 3 ≤ sA K.1) 303 dL_act_277 (by decide) (c_leNN (by omega) (by omega)) (fun h277_50 => ?_) (fun h277_50 => ?_)
      · refine r_aload_n C (i := 0) 5 dL_act_303 rfl rfl ?_
        refine r_bipush C dL_act_304 kb_17 ?_
        refine r_iconst C dL_act_306 ki_0 ?_
        refine r_iconst C dL_act_307 ki_0 ?_
        refine r_iconst C dL_act_308 ki_0 ?_
        refine Ca.on hB.2.2.2 hB.2.1 (j := 0) (K := 1) (rest := []) (by omega) (ct_undo hst hA4  ) lk_L_call w_2_41 dL_act_309 rfl ⟨by decide, by decide⟩ (Nat.le_of_ble_eq_true rfl) ?_
        rintro _ w51 ⟨rfl, hA52⟩
        have C := hB.1 1 (by omega)
        have RT := hB.2.2.1 1 (by omega)
        show Ω 1 w51 [(6, .int (nI ((x / 960) % 20))), (5, .int (nI ((x / 96) % (sA K.1)))), (4, .int (nI ((x / 16) % (sP K.1)))), (3, .int (nI (sA K.1))), (2, .int (nI (sP K.1))), (0, .ref (α 0)), (1, .int (nI x))] [.int ((rUndo K).1)] 312
        exact RT.1 _ _ _ _ _ dL_act_312 rfl rfl (⟨by rw [(by unfold actR; rw [if_neg (by omega : ¬ (x % 16 = 0)), if_neg (by omega : ¬ (x % 16 = 1)), if_neg (by omega : ¬ (x % 16 < 5)), if_neg (by omega : ¬ (x % 16 < 7)), if_neg (by omega : ¬ (x % 16 = 7)), if_neg (by omega : ¬ (x % 16 < 10)), if_neg (by omega : ¬ (x % 16 < 12)), if_neg (by omega : ¬ (x % 16 = 12)), if_pos (by omega : x % 16 = 13), if_neg (by omega : ¬ (sP K.1 < 2 ∨ sA K.1 < 3))] : actR K x = (((rUndo K).1), ((rUndo K).2)))], by rw [(by unfold actR; rw [if_neg (by omega : ¬ (x % 16 = 0)), if_neg (by omega : ¬ (x % 16 = 1)), if_neg (by omega : ¬ (x % 16 < 5)), if_neg (by omega : ¬ (x % 16 < 7)), if_neg (by omega : ¬ (x % 16 = 7)), if_neg (by omega : ¬ (x % 16 < 10)), if_neg (by omega : ¬ (x % 16 < 12)), if_neg (by omega : ¬ (x % 16 = 12)), if_pos (by omega : x % 16 = 13), if_neg (by omega : ¬ (sP K.1 < 2 ∨ sA K.1 < 3))] : actR K x = (((rUndo K).1), ((rUndo K).2)))]; exact hA52⟩) (hA52.fst.trans hA.fst.symm)
      · refine r_aload_n C (i := 0) 5 dL_act_280 rfl rfl ?_
        refine r_bipush C dL_act_281 kb_16 ?_
        refine r_iload_n C (i := 1) 6 dL_act_283 rfl rfl ?_
        refine r_bipush C dL_act_284 kb_16 ?_
        refine r_idiv (v := nI (x / 16)) C dL_act_286 (v_nz (by omega) (by omega)) (v_div (by omega) (by omega) (by omega)) ?_
        refine r_iconst C dL_act_287 ki_2 ?_
        refine r_irem (v := nI ((x / 16) % 2)) C dL_act_288 (v_nz (by omega) (by omega)) (v_rem (by omega) (by omega) (by omega)) ?_
        refine r_iload_n C (i := 1) 6 dL_act_289 rfl rfl ?_
        refine r_bipush C dL_act_290 kb_32 ?_
        refine r_idiv (v := nI (x / 32)) C dL_act_292 (v_nz (by omega) (by omega)) (v_div (by omega) (by omega) (by omega)) ?_
        refine r_bipush C dL_act_293 kb_12 ?_
        refine r_irem (v := nI ((x / 32) % 12)) C dL_act_295 (v_nz (by omega) (by omega)) (v_rem (by omega) (by omega) (by omega)) ?_
        refine r_iconst C dL_act_296 ki_0 ?_
        refine Ca.on hB.2.2.2 hB.2.1 (j := 0) (K := 1) (rest := []) (by omega) (ct_lay hst hA4 (v := (x / 32) % 12) (x := (x / 16) % 2) (hx := (by omega)) (hv := (by omega))) lk_L_call w_2_41 dL_act_297 rfl ⟨by decide, by decide⟩ (Nat.le_of_ble_eq_true rfl) ?_
        rintro _ w53 ⟨rfl, hA54⟩
        have C := hB.1 1 (by omega)
        have RT := hB.2.2.1 1 (by omega)
        show Ω 1 w53 [(6, .int (nI ((x / 960) % 20))), (5, .int (nI ((x / 96) % (sA K.1)))), (4, .int (nI ((x / 16) % (sP K.1)))), (3, .int (nI (sA K.1))), (2, .int (nI (sP K.1))), (0, .ref (α 0)), (1, .int (nI x))] [.int ((rLay K ((x / 16) % 2) ((x / 32) % 12)).1)] 300
        refine r_goto C 312 dL_act_300 (by decide) ?_
        exact RT.1 _ _ _ _ _ dL_act_312 rfl rfl (⟨by rw [(by unfold actR; rw [if_neg (by omega : ¬ (x % 16 = 0)), if_neg (by omega : ¬ (x % 16 = 1)), if_neg (by omega : ¬ (x % 16 < 5)), if_neg (by omega : ¬ (x % 16 < 7)), if_neg (by omega : ¬ (x % 16 = 7)), if_neg (by omega : ¬ (x % 16 < 10)), if_neg (by omega : ¬ (x % 16 < 12)), if_neg (by omega : ¬ (x % 16 = 12)), if_pos (by omega : x % 16 = 13), if_pos (by omega : sP K.1 < 2 ∨ sA K.1 < 3)] : actR K x = (((rLay K ((x / 16) % 2) ((x / 32) % 12)).1), ((rLay K ((x / 16) % 2) ((x / 32) % 12)).2)))], by rw [(by unfold actR; rw [if_neg (by omega : ¬ (x % 16 = 0)), if_neg (by omega : ¬ (x % 16 = 1)), if_neg (by omega : ¬ (x % 16 < 5)), if_neg (by omega : ¬ (x % 16 < 7)), if_neg (by omega : ¬ (x % 16 = 7)), if_neg (by omega : ¬ (x % 16 < 10)), if_neg (by omega : ¬ (x % 16 < 12)), if_neg (by omega : ¬ (x % 16 = 12)), if_pos (by omega : x % 16 = 13), if_pos (by omega : sP K.1 < 2 ∨ sA K.1 < 3)] : actR K x = (((rLay K ((x / 16) % 2) ((x / 32) % 12)).1), ((rLay K ((x / 16) % 2) ((x / 32) % 12)).2)))]; exact hA54⟩) (hA54.fst.trans hA.fst.symm)
  · refine r_st (st' := [.int (nI 14)]) (by rw [h16]) ?_
    refine r_tabIn (off := 265) C 313 dL_act_48 (by decide) (by decide) (by decide) (by decide) ?_
    refine r_aload_n C (i := 0) 5 dL_act_313 rfl rfl ?_
    refine r_bipush C dL_act_314 kb_23 ?_
    refine r_iload_n C (i := 1) 6 dL_act_316 rfl rfl ?_
    refine r_bipush C dL_act_317 kb_16 ?_
    refine r_idiv (v := nI (x / 16)) C dL_act_319 (v_nz (by omega) (by omega)) (v_div (by omega) (by omega) (by omega)) ?_
    refine r_iconst C dL_act_320 ki_2 ?_
    refine r_irem (v := nI ((x / 16) % 2)) C dL_act_321 (v_nz (by omega) (by omega)) (v_rem (by omega) (by omega) (by omega)) ?_
    refine r_iconst C dL_act_322 ki_0 ?_
    refine r_iconst C dL_act_323 ki_0 ?_
    refine Ca.on hB.2.2.2 hB.2.1 (j := 0) (K := 0) (rest := []) (by omega) (cl_keep hst hA4 (k := (x / 16) % 2) (hk := (by omega))).l lk_L_call w_2_41 dL_act_324 rfl ⟨by decide, by decide⟩ (Nat.le_of_ble_eq_true rfl) ?_
    rintro _ w55 ⟨rfl, hA56⟩
    replace hA56 : Ark E α (kSv K ((x / 16) % 2)) w55 := hA56
    show Ω 0 w55 [(6, .int (nI ((x / 960) % 20))), (5, .int (nI ((x / 96) % (sA K.1)))), (4, .int (nI ((x / 16) % (sP K.1)))), (3, .int (nI (sA K.1))), (2, .int (nI (sP K.1))), (0, .ref (α 0)), (1, .int (nI x))] [.int (nI (sS K.1))] 327
    exact RT.1 _ _ _ _ _ dL_act_327 rfl rfl (⟨by rw [(by unfold actR; rw [if_neg (by omega : ¬ (x % 16 = 0)), if_neg (by omega : ¬ (x % 16 = 1)), if_neg (by omega : ¬ (x % 16 < 5)), if_neg (by omega : ¬ (x % 16 < 7)), if_neg (by omega : ¬ (x % 16 = 7)), if_neg (by omega : ¬ (x % 16 < 10)), if_neg (by omega : ¬ (x % 16 < 12)), if_neg (by omega : ¬ (x % 16 = 12)), if_neg (by omega : ¬ (x % 16 = 13)), if_pos (by omega : x % 16 = 14)] : actR K x = (nI (sS K.1), (kSv K ((x / 16) % 2))))], by rw [(by unfold actR; rw [if_neg (by omega : ¬ (x % 16 = 0)), if_neg (by omega : ¬ (x % 16 = 1)), if_neg (by omega : ¬ (x % 16 < 5)), if_neg (by omega : ¬ (x % 16 < 7)), if_neg (by omega : ¬ (x % 16 = 7)), if_neg (by omega : ¬ (x % 16 < 10)), if_neg (by omega : ¬ (x % 16 < 12)), if_neg (by omega : ¬ (x % 16 = 12)), if_neg (by omega : ¬ (x % 16 = 13)), if_pos (by omega : x % 16 = 14)] : actR K x = (nI (sS K.1), (kSv K ((x / 16) % 2))))]; exact hA56⟩) (hA56.fst.trans hA.fst.symm)
  · refine r_st (st' := [.int (nI 15)]) (by rw [h16]) ?_
    refine r_tabOut C 328 dL_act_48 (by decide) (by decide) ?_
    refine r_aload_n C (i := 0) 5 dL_act_328 rfl rfl ?_
    refine r_bipush C dL_act_329 kb_24 ?_
    refine r_iload_n C (i := 1) 6 dL_act_331 rfl rfl ?_
    refine r_bipush C dL_act_332 kb_16 ?_
    refine r_idiv (v := nI (x / 16)) C dL_act_334 (v_nz (by omega) (by omega)) (v_div (by omega) (by omega) (by omega)) ?_
    refine r_iconst C dL_act_335 ki_2 ?_
    refine r_irem (v := nI ((x / 16) % 2)) C dL_act_336 (v_nz (by omega) (by omega)) (v_rem (by omega) (by omega) (by omega)) ?_
    refine r_iconst C dL_act_337 ki_0 ?_
    refine r_iconst C dL_act_338 ki_0 ?_
    refine Ca.on hB.2.2.2 hB.2.1 (j := 0) (K := 1) (rest := []) (by omega) (ct_back hst hA4 (k := (x / 16) % 2) (hk := (by omega))) lk_L_call w_2_41 dL_act_339 rfl ⟨by decide, by decide⟩ (Nat.le_of_ble_eq_true rfl) ?_
    rintro _ w57 ⟨rfl, hA58⟩
    have C := hB.1 1 (by omega)
    have RT := hB.2.2.1 1 (by omega)
    show Ω 1 w57 [(6, .int (nI ((x / 960) % 20))), (5, .int (nI ((x / 96) % (sA K.1)))), (4, .int (nI ((x / 16) % (sP K.1)))), (3, .int (nI (sA K.1))), (2, .int (nI (sP K.1))), (0, .ref (α 0)), (1, .int (nI x))] [.int ((rBack K ((x / 16) % 2)).1)] 342
    exact RT.1 _ _ _ _ _ dL_act_342 rfl rfl (⟨by rw [(by unfold actR; rw [if_neg (by omega : ¬ (x % 16 = 0)), if_neg (by omega : ¬ (x % 16 = 1)), if_neg (by omega : ¬ (x % 16 < 5)), if_neg (by omega : ¬ (x % 16 < 7)), if_neg (by omega : ¬ (x % 16 = 7)), if_neg (by omega : ¬ (x % 16 < 10)), if_neg (by omega : ¬ (x % 16 < 12)), if_neg (by omega : ¬ (x % 16 = 12)), if_neg (by omega : ¬ (x % 16 = 13)), if_neg (by omega : ¬ (x % 16 = 14))] : actR K x = (((rBack K ((x / 16) % 2)).1), ((rBack K ((x / 16) % 2)).2)))], by rw [(by unfold actR; rw [if_neg (by omega : ¬ (x % 16 = 0)), if_neg (by omega : ¬ (x % 16 = 1)), if_neg (by omega : ¬ (x % 16 < 5)), if_neg (by omega : ¬ (x % 16 < 7)), if_neg (by omega : ¬ (x % 16 = 7)), if_neg (by omega : ¬ (x % 16 < 10)), if_neg (by omega : ¬ (x % 16 < 12)), if_neg (by omega : ¬ (x % 16 = 12)), if_neg (by omega : ¬ (x % 16 = 13)), if_neg (by omega : ¬ (x % 16 = 14))] : actR K x = (((rBack K ((x / 16) % 2)).1), ((rBack K ((x / 16) % 2)).2)))]; exact hA58⟩) (hA58.fst.trans hA.fst.symm)
