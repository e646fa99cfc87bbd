theorem v_subM (a : Nat) : nI a - nI 1 = mI a := rfl
theorem in_N {i h : Nat} (hi : i < 2147483648) (hh : h < 2147483648) : (lN 0 ≤ lN i ∧ lN i ≤ lN h) ↔ i ≤ h := by
  rw [lN_le (by decide) hi, lN_le hi hh]; omega
theorem tl32 (x : Int32) : (x.toInt64).toInt = x.toInt := Int32.toInt_toInt64 x
theorem in_NM {i h : Nat} (hi : i < 2147483648) (hh : h < 2147483648) : (lN 0 ≤ lN i ∧ lN i ≤ (mI h).toInt64) ↔ i < h := by
  rw [Int64.le_iff_toInt_le, Int64.le_iff_toInt_le, tl32, mI_toInt hh, lN_toInt hi, lN_toInt (by decide)]; omega
theorem in_r {x : Int32} {h : Nat} (hh : h < 2147483648) : (lN 0 ≤ x.toInt64 ∧ x.toInt64 ≤ lN h) ↔ vI x (h + 1) := by
  rw [Int64.le_iff_toInt_le, Int64.le_iff_toInt_le, tl32, lN_toInt hh, lN_toInt (by decide)]; unfold vI; omega
theorem in_rM {x : Int32} {h : Nat} (hh : h < 2147483648) : (lN 0 ≤ x.toInt64 ∧ x.toInt64 ≤ (mI h).toInt64) ↔ vI x h := by
  rw [Int64.le_iff_toInt_le, Int64.le_iff_toInt_le, tl32 x, tl32 (mI h), mI_toInt hh, lN_toInt (by decide)]; unfold vI; omega
theorem cpy_s {F G : Nat → Int32} {sp dp k : Nat} : upd (va_cpy F G sp dp k) (dp + k) (F (sp + k)) = va_cpy F G sp dp (k + 1) := funext fun j => by
  unfold upd va_cpy
  by_cases e : j = dp + k
  · subst e; rw [if_pos rfl, if_pos (by omega)]; congr 1; omega
  · rw [if_neg e]
    by_cases h : dp ≤ j ∧ j < dp + k
    · rw [if_pos h, if_pos (by omega)]
    · rw [if_neg h, if_neg (by omega)]
theorem cpy_0 (F G : Nat → Int32) (sp dp : Nat) : G = va_cpy F G sp dp 0 := funext fun j => (if_neg (by omega)).symm
/-- how many bits of a number are set, of the first n -/
def cb (s : Nat) : Nat → Nat
  | 0 => 0
  | n + 1 => cb s n + s / 2 ^ n % 2
theorem cb_le (s : Nat) : ∀ n, cb s n ≤ n
  | 0 => Nat.le_refl 0
  | n + 1 => by have := cb_le s n; have : s / 2 ^ n % 2 < 2 := Nat.mod_lt _ (by decide); rw [cb]; omega
theorem cb_I {σ : Sg} (hW : Wf σ) (a : Nat) : ∀ {n : Nat}, n ≤ 20 → cb (bm (fun n => sI σ a n) 20) n = cntI σ a n
  | 0, _ => rfl
  | n + 1, h => by rw [cb, cntI, cb_I hW a (by omega), bmM_bit hW a (by omega)]
def ply (σ : Sg) (n a : Nat) : Nat := if dk σ n = 0 ∧ fa_first (fun p => decide (T σ n p = a + 1)) (sP σ) < sP σ then fa_first (fun p => decide (T σ n p = a + 1)) (sP σ) + 1 else 0
theorem ply_yes {σ : Sg} {n a p : Nat} (hd : dk σ n = 0) (hp : p < sP σ) (h : T σ n p = a + 1) (h0 : ∀ j, j < p → T σ n j ≠ a + 1) : ply σ n a = p + 1 := by
  unfold ply
  rw [fa_first_at hp (decide_eq_true h) (fun j hj => decide_eq_false (h0 j hj)), if_pos ⟨hd, hp⟩]
theorem ply_no {σ : Sg} {n a : Nat} (h : dk σ n = 0 → ∀ p, p < sP σ → T σ n p ≠ a + 1) : ply σ n a = 0 := by
  unfold ply
  rw [if_neg]
  rintro ⟨hd, z⟩
  exact h hd _ z (of_decide_eq_true (fa_first_yes (fun p => decide (T σ n p = a + 1)) (sP σ) z))
theorem ply_le (σ : Sg) (n a : Nat) : ply σ n a ≤ sP σ := by unfold ply; split <;> omega
abbrev usd (σ : Sg) (k : Nat) : Prop := dk σ (sL σ k 0) = 0 ∧ Bs σ (sL σ k 0) (sL σ k 1) = k + 1
theorem can_bit (u a : Nat) : u / 2 ^ a % 2 = 0 ↔ u.testBit a = false := tbd0 u a
set_option maxRecDepth 100000 in
set_option maxHeartbeats 1000000 in
theorem c_X6_in {l : Launch} {E : Ev} {v lw hg : Int64} : Cr l E yX6_in cX6_in 6 (some FieldType.boolean) 0 0 [.long v, .long lw, .long hg] [] (some (.int (bP (lw ≤ v ∧ v ≤ hg)))) := by
  refine ct_of (by decide +kernel) (Nat.le_of_ble_eq_true rfl) (fun ω C RT => ?_)
  show ω [] [(0, .long v), (2, .long lw), (4, .long hg)] [] 0
  refine r_lload_n C (i := 0) 0 dX6_in_0 rfl rfl ?_
  refine r_lload_n C (i := 2) 1 dX6_in_1 rfl rfl ?_
  refine r_lcmp C dX6_in_2 rfl ?_
  refine r_if_lt C (y := 0) (c9 := v < lw) 17 dX6_in_3 (by decide) (lg_cmp_lt _ _) (fun h3_1 => ?_) (fun h3_1 => ?_)
  · refine r_iconst C dX6_in_17 ki_0 ?_
    exact RT.1 _ _ _ _ _ dX6_in_18 rfl nar_0 (rd_i (bP_f (fun z => Int64.not_lt.mpr z.1 h3_1))) rfl
  · refine r_lload_n C (i := 0) 0 dX6_in_6 rfl rfl ?_
    refine r_lload C (i := 4) 2 dX6_in_7 rfl ?_
    refine r_lcmp C dX6_in_9 rfl ?_
    refine r_if_gt C (y := 0) (c9 := hg < v) 17 dX6_in_10 (by decide) (lg_cmp_gt _ _) (fun h10_2 => ?_) (fun h10_2 => ?_)
    · refine r_iconst C dX6_in_17 ki_0 ?_
      exact RT.1 _ _ _ _ _ dX6_in_18 rfl nar_0 (rd_i (bP_f (fun z => Int64.not_lt.mpr z.2 h10_2))) rfl
    · refine r_iconst C dX6_in_13 ki_1 ?_
      refine r_goto C 18 dX6_in_14 (by decide) ?_
      exact RT.1 _ _ _ _ _ dX6_in_18 rfl nar_1 (rd_i (bP_t ⟨Int64.not_lt.mp h3_1, Int64.not_lt.mp h10_2⟩)) rfl
set_option maxRecDepth 100000 in
set_option maxHeartbeats 1000000 in
theorem c_X6_isNight {l : Launch} {E : Ev} {i : Nat} (hi : i < 2147483648) : Cr l E yX6_isNight cX6_isNight 1 (some FieldType.boolean) 1 25 [.int (nI i)] [] (some (.int (bP (i ≤ 19)))) := by
  refine ct_of (by decide +kernel) (Nat.le_of_ble_eq_true rfl) (fun ω C RT => ?_)
  show ω [] [(0, .int (nI i))] [] 0
  refine r_iload_n C (i := 0) 0 dX6_isNight_0 rfl rfl ?_
  refine r_i2l (v := lN i) C dX6_isNight_1 (v_i2l (by omega)) ?_
  refine r_lconst (v := lN 0) C dX6_isNight_2 (by decide +kernel) ?_
  refine r_ldc2 (v := lN 19) C dX6_isNight_3 w_5_188 ?_
  refine r_readS (rest := []) C (c_X6_in (v := lN i) (lw := lN 0) (hg := lN 19)) lk_X6_in w_5_113 [] dX6_isNight_6 rfl rfl rfl ⟨by decide, by decide⟩ (Nat.le_of_ble_eq_true rfl) (st' := [.int (bP (lN 0 ≤ lN i ∧ lN i ≤ lN 19))]) rfl ?_
  refine r_st (st' := [.int (bP (i ≤ 19))]) (by rw [bP_c (in_N (by omega) (by omega))]) ?_
  exact RT.1 _ _ _ _ _ dX6_isNight_9 rfl nar_B (rd_i rfl) rfl
set_option maxRecDepth 100000 in
set_option maxHeartbeats 1000000 in
theorem c_X6_isNight__r {l : Launch} {E : Ev} {x : Int32} : Cr l E yX6_isNight cX6_isNight 1 (some FieldType.boolean) 1 25 [.int x] [] (some (.int (bP (vI x 20)))) := by
  refine ct_of (by decide +kernel) (Nat.le_of_ble_eq_true rfl) (fun ω C RT => ?_)
  show ω [] [(0, .int x)] [] 0
  refine r_iload_n C (i := 0) 0 dX6_isNight_0 rfl rfl ?_
  refine r_i2l (v := (x).toInt64) C dX6_isNight_1 rfl ?_
  refine r_lconst (v := lN 0) C dX6_isNight_2 (by decide +kernel) ?_
  refine r_ldc2 (v := lN 19) C dX6_isNight_3 w_5_188 ?_
  refine r_readS (rest := []) C (c_X6_in (v := (x).toInt64) (lw := lN 0) (hg := lN 19)) lk_X6_in w_5_113 [] dX6_isNight_6 rfl rfl rfl ⟨by decide, by decide⟩ (Nat.le_of_ble_eq_true rfl) (st' := [.int (bP (lN 0 ≤ (x).toInt64 ∧ (x).toInt64 ≤ lN 19))]) rfl ?_
  refine r_st (st' := [.int (bP (vI x (20)))]) (by rw [bP_c (in_r (by omega))]) ?_
  exact RT.1 _ _ _ _ _ dX6_isNight_9 rfl nar_B (rd_i rfl) rfl
set_option maxRecDepth 100000 in
set_option maxHeartbeats 1000000 in
theorem c_X6_isPart {l : Launch} {E : Ev} {r : Nat} {g : Nat → Int32} {σ : Sg} (hR : RepM σ g) (hW : Wf σ) {i : Nat} (hi : i < 2147483648) : Cr l E yX6_isPart cX6_isPart 2 (some FieldType.boolean) 1 25 [.ref r, .int (nI i)] [(r, .inl (eI E, 255, .inl g))] (some (.int (bP (i < sP σ)))) := by
  have hwP := hW.P
  have hwA := hW.A
  have hwS := hW.S
  refine ct_of (by decide +kernel) (Nat.le_of_ble_eq_true rfl) (fun ω C RT => ?_)
  show ω [(r, .inl (eI E, 255, .inl g))] [(0, .ref r), (1, .int (nI i))] [] 0
  refine r_iload_n C (i := 1) 1 dX6_isPart_0 rfl rfl ?_
  refine r_i2l (v := lN i) C dX6_isPart_1 (v_i2l (by omega)) ?_
  refine r_lconst (v := lN 0) C dX6_isPart_2 (by decide +kernel) ?_
  refine r_aload_n C (i := 0) 0 dX6_isPart_3 rfl rfl ?_
  refine r_iconst C dX6_isPart_4 ki_0 ?_
  refine r_iald (j := 0) (v := nI (sP σ)) C 0 rfl (by omega) (by decide) hR.P dX6_isPart_5 ?_
  refine r_iconst C dX6_isPart_6 ki_1 ?_
  refine r_isub (v := mI (sP σ)) C dX6_isPart_7 (v_subM _) ?_
  refine r_i2l (v := (mI (sP σ)).toInt64) C dX6_isPart_8 rfl ?_
  refine r_readS (rest := []) C (c_X6_in (v := lN i) (lw := lN 0) (hg := (mI (sP σ)).toInt64)) lk_X6_in w_5_113 [] dX6_isPart_9 rfl rfl rfl ⟨by decide, by decide⟩ (Nat.le_of_ble_eq_true rfl) (st' := [.int (bP (lN 0 ≤ lN i ∧ lN i ≤ (mI (sP σ)).toInt64))]) rfl ?_
  refine r_st (st' := [.int (bP (i < (sP σ)))]) (by rw [bP_c (in_NM (by omega) (by omega))]) ?_
  exact RT.1 _ _ _ _ _ dX6_isPart_12 rfl nar_B (rd_i rfl) rfl
set_option maxRecDepth 100000 in
set_option maxHeartbeats 1000000 in
theorem c_X6_isPart__r {l : Launch} {E : Ev} {r : Nat} {g : Nat → Int32} {σ : Sg} (hR : RepM σ g) (hW : Wf σ) {x : Int32} : Cr l E yX6_isPart cX6_isPart 2 (some FieldType.boolean) 1 25 [.ref r, .int x] [(r, .inl (eI E, 255, .inl g))] (some (.int (bP (vI x (sP σ))))) := by
  have hwP := hW.P
  have hwA := hW.A
  have hwS := hW.S
  refine ct_of (by decide +kernel) (Nat.le_of_ble_eq_true rfl) (fun ω C RT => ?_)
  show ω [(r, .inl (eI E, 255, .inl g))] [(0, .ref r), (1, .int x)] [] 0
  refine r_iload_n C (i := 1) 1 dX6_isPart_0 rfl rfl ?_
  refine r_i2l (v := (x).toInt64) C dX6_isPart_1 rfl ?_
  refine r_lconst (v := lN 0) C dX6_isPart_2 (by decide +kernel) ?_
  refine r_aload_n C (i := 0) 0 dX6_isPart_3 rfl rfl ?_
  refine r_iconst C dX6_isPart_4 ki_0 ?_
  refine r_iald (j := 0) (v := nI (sP σ)) C 0 rfl (by omega) (by decide) hR.P dX6_isPart_5 ?_
  refine r_iconst C dX6_isPart_6 ki_1 ?_
  refine r_isub (v := mI (sP σ)) C dX6_isPart_7 (v_subM _) ?_
  refine r_i2l (v := (mI (sP σ)).toInt64) C dX6_isPart_8 rfl ?_
  refine r_readS (rest := []) C (c_X6_in (v := (x).toInt64) (lw := lN 0) (hg := (mI (sP σ)).toInt64)) lk_X6_in w_5_113 [] dX6_isPart_9 rfl rfl rfl ⟨by decide, by decide⟩ (Nat.le_of_ble_eq_true rfl) (st' := [.int (bP (lN 0 ≤ (x).toInt64 ∧ (x).toInt64 ≤ (mI (sP σ)).toInt64))]) rfl ?_
  refine r_st (st' := [.int (bP (vI x (sP σ)))]) (by rw [bP_c (in_rM (by omega))]) ?_
  exact RT.1 _ _ _ _ _ dX6_isPart_12 rfl nar_B (rd_i rfl) rfl
set_option maxRecDepth 100000 in
set_option maxHeartbeats 1000000 in
theorem c_X6_isActor {l : Launch} {E : Ev} {r : Nat} {g : Nat → Int32} {σ : Sg} (hR : RepM σ g) (hW : Wf σ) {i : Nat} (hi : i < 2147483648) : Cr l E yX6_isActor cX6_isActor 2 (some FieldType.boolean) 1 25 [.ref r, .int (nI i)] [(r, .inl (eI E, 255, .inl g))] (some (.int (bP (i < sA σ)))) := by
  have hwP := hW.P
  have hwA := hW.A
  have hwS := hW.S
  refine ct_of (by decide +kernel) (Nat.le_of_ble_eq_true rfl) (fun ω C RT => ?_)
  show ω [(r, .inl (eI E, 255, .inl g))] [(0, .ref r), (1, .int (nI i))] [] 0
  refine r_iload_n C (i := 1) 1 dX6_isActor_0 rfl rfl ?_
  refine r_i2l (v := lN i) C dX6_isActor_1 (v_i2l (by omega)) ?_
  refine r_lconst (v := lN 0) C dX6_isActor_2 (by decide +kernel) ?_
  refine r_aload_n C (i := 0) 0 dX6_isActor_3 rfl rfl ?_
  refine r_iconst C dX6_isActor_4 ki_1 ?_
  refine r_iald (j := 1) (v := nI (sA σ)) C 0 rfl (by omega) (by decide) hR.A dX6_isActor_5 ?_
  refine r_iconst C dX6_isActor_6 ki_1 ?_
  refine r_isub (v := mI (sA σ)) C dX6_isActor_7 (v_subM _) ?_
  refine r_i2l (v := (mI (sA σ)).toInt64) C dX6_isActor_8 rfl ?_
  refine r_readS (rest := []) C (c_X6_in (v := lN i) (lw := lN 0) (hg := (mI (sA σ)).toInt64)) lk_X6_in w_5_113 [] dX6_isActor_9 rfl rfl rfl ⟨by decide, by decide⟩ (Nat.le_of_ble_eq_true rfl) (st' := [.int (bP (lN 0 ≤ lN i ∧ lN i ≤ (mI (sA σ)).toInt64))]) rfl ?_
  refine r_st (st' := [.int (bP (i < (sA σ)))]) (by rw [bP_c (in_NM (by omega) (by omega))]) ?_
  exact RT.1 _ _ _ _ _ dX6_isActor_12 rfl nar_B (rd_i rfl) rfl
set_option maxRecDepth 100000 in
set_option maxHeartbeats 1000000 in
theorem c_X6_isActor__r {l : Launch} {E : Ev} {r : Nat} {g : Nat → Int32} {σ : Sg} (hR : RepM σ g) (hW : Wf σ) {x : Int32} : Cr l E yX6_isActor cX6_isActor 2 (some FieldType.boolean) 1 25 [.ref r, .int x] [(r, .inl (eI E, 255, .inl g))] (some (.int (bP (vI x (sA σ))))) := by
  have hwP := hW.P
  have hwA := hW.A
  have hwS := hW.S
  refine ct_of (by decide +kernel) (Nat.le_of_ble_eq_true rfl) (fun ω C RT => ?_)
  show ω [(r, .inl (eI E, 255, .inl g))] [(0, .ref r), (1, .int x)] [] 0
  refine r_iload_n C (i := 1) 1 dX6_isActor_0 rfl rfl ?_
  refine r_i2l (v := (x).toInt64) C dX6_isActor_1 rfl ?_
  refine r_lconst (v := lN 0) C dX6_isActor_2 (by decide +kernel) ?_
  refine r_aload_n C (i := 0) 0 dX6_isActor_3 rfl rfl ?_
  refine r_iconst C dX6_isActor_4 ki_1 ?_
  refine r_iald (j := 1) (v := nI (sA σ)) C 0 rfl (by omega) (by decide) hR.A dX6_isActor_5 ?_
  refine r_iconst C dX6_isActor_6 ki_1 ?_
  refine r_isub (v := mI (sA σ)) C dX6_isActor_7 (v_subM _) ?_
  refine r_i2l (v := (mI (sA σ)).toInt64) C dX6_isActor_8 rfl ?_
  refine r_readS (rest := []) C (c_X6_in (v := (x).toInt64) (lw := lN 0) (hg := (mI (sA σ)).toInt64)) lk_X6_in w_5_113 [] dX6_isActor_9 rfl rfl rfl ⟨by decide, by decide⟩ (Nat.le_of_ble_eq_true rfl) (st' := [.int (bP (lN 0 ≤ (x).toInt64 ∧ (x).toInt64 ≤ (mI (sA σ)).toInt64))]) rfl ?_
  refine r_st (st' := [.int (bP (vI x (sA σ)))]) (by rw [bP_c (in_rM (by omega))]) ?_
  exact RT.1 _ _ _ _ _ dX6_isActor_12 rfl nar_B (rd_i rfl) rfl
set_option maxRecDepth 100000 in
set_option maxHeartbeats 1000000 in
theorem c_X6_isSlip {l : Launch} {E : Ev} {r : Nat} {g : Nat → Int32} {σ : Sg} (hR : RepM σ g) (hW : Wf σ) {i : Nat} (hi : i < 2147483648) : Cr l E yX6_isSlip cX6_isSlip 2 (some FieldType.boolean) 1 25 [.ref r, .int (nI i)] [(r, .inl (eI E, 255, .inl g))] (some (.int (bP (i < sS σ)))) := by
  have hwP := hW.P
  have hwA := hW.A
  have hwS := hW.S
  refine ct_of (by decide +kernel) (Nat.le_of_ble_eq_true rfl) (fun ω C RT => ?_)
  show ω [(r, .inl (eI E, 255, .inl g))] [(0, .ref r), (1, .int (nI i))] [] 0
  refine r_iload_n C (i := 1) 1 dX6_isSlip_0 rfl rfl ?_
  refine r_i2l (v := lN i) C dX6_isSlip_1 (v_i2l (by omega)) ?_
  refine r_lconst (v := lN 0) C dX6_isSlip_2 (by decide +kernel) ?_
  refine r_aload_n C (i := 0) 0 dX6_isSlip_3 rfl rfl ?_
  refine r_iconst C dX6_isSlip_4 ki_2 ?_
  refine r_iald (j := 2) (v := nI (sS σ)) C 0 rfl (by omega) (by decide) hR.S dX6_isSlip_5 ?_
  refine r_iconst C dX6_isSlip_6 ki_1 ?_
  refine r_isub (v := mI (sS σ)) C dX6_isSlip_7 (v_subM _) ?_
  refine r_i2l (v := (mI (sS σ)).toInt64) C dX6_isSlip_8 rfl ?_
  refine r_readS (rest := []) C (c_X6_in (v := lN i) (lw := lN 0) (hg := (mI (sS σ)).toInt64)) lk_X6_in w_5_113 [] dX6_isSlip_9 rfl rfl rfl ⟨by decide, by decide⟩ (Nat.le_of_ble_eq_true rfl) (st' := [.int (bP (lN 0 ≤ lN i ∧ lN i ≤ (mI (sS σ)).toInt64))]) rfl ?_
  refine r_st (st' := [.int (bP (i < (sS σ)))]) (by rw [bP_c (in_NM (by omega) (by omega))]) ?_
  exact RT.1 _ _ _ _ _ dX6_isSlip_12 rfl nar_B (rd_i rfl) rfl
set_option maxRecDepth 100000 in
set_option maxHeartbeats 1000000 in
theorem c_X6_isSlip__r {l : Launch} {E : Ev} {r : Nat} {g : Nat → Int32} {σ : Sg} (hR : RepM σ g) (hW : Wf σ) {x : Int32} : Cr l E yX6_isSlip cX6_isSlip 2 (some FieldType.boolean) 1 25 [.ref r, .int x] [(r, .inl (eI E, 255, .inl g))] (some (.int (bP (vI x (sS σ))))) := by
  have hwP := hW.P
  have hwA := hW.A
  have hwS := hW.S
  refine ct_of (by decide +kernel) (Nat.le_of_ble_eq_true rfl) (fun ω C RT => ?_)
  show ω [(r, .inl (eI E, 255, .inl g))] [(0, .ref r), (1, .int x)] [] 0
  refine r_iload_n C (i := 1) 1 dX6_isSlip_0 rfl rfl ?_
  refine r_i2l (v := (x).toInt64) C dX6_isSlip_1 rfl ?_
  refine r_lconst (v := lN 0) C dX6_isSlip_2 (by decide +kernel) ?_
  refine r_aload_n C (i := 0) 0 dX6_isSlip_3 rfl rfl ?_
  refine r_iconst C dX6_isSlip_4 ki_2 ?_
  refine r_iald (j := 2) (v := nI (sS σ)) C 0 rfl (by omega) (by decide) hR.S dX6_isSlip_5 ?_
  refine r_iconst C dX6_isSlip_6 ki_1 ?_
  refine r_isub (v := mI (sS σ)) C dX6_isSlip_7 (v_subM _) ?_
  refine r_i2l (v := (mI (sS σ)).toInt64) C dX6_isSlip_8 rfl ?_
  refine r_readS (rest := []) C (c_X6_in (v := (x).toInt64) (lw := lN 0) (hg := (mI (sS σ)).toInt64)) lk_X6_in w_5_113 [] dX6_isSlip_9 rfl rfl rfl ⟨by decide, by decide⟩ (Nat.le_of_ble_eq_true rfl) (st' := [.int (bP (lN 0 ≤ (x).toInt64 ∧ (x).toInt64 ≤ (mI (sS σ)).toInt64))]) rfl ?_
  refine r_st (st' := [.int (bP (vI x (sS σ)))]) (by rw [bP_c (in_rM (by omega))]) ?_
  exact RT.1 _ _ _ _ _ dX6_isSlip_12 rfl nar_B (rd_i rfl) rfl
set_option maxRecDepth 100000 in
set_option maxHeartbeats 1000000 in
theorem c_X6_principal {l : Launch} {E : Ev} {r : Nat} {g : Nat → Int32} {σ : Sg} (hR : RepM σ g) (hW : Wf σ) {n p : Nat} (hn : n < 20) (hp : p < sP σ) : Cr l E yX6_principal cX6_principal 3 (some FieldType.int) 0 0 [.ref r, .int (nI n), .int (nI p)] [(r, .inl (eI E, 255, .inl g))] (some (.int (mI (sR σ p n)))) := by
  have hwP := hW.P
  have hwA := hW.A
  have hwS := hW.S
  refine ct_of (by decide +kernel) (Nat.le_of_ble_eq_true rfl) (fun ω C RT => ?_)
  show ω [(r, .inl (eI E, 255, .inl g))] [(0, .ref r), (1, .int (nI n)), (2, .int (nI p))] [] 0
  refine r_aload_n C (i := 0) 0 dX6_principal_0 rfl rfl ?_
  refine r_bipush C dX6_principal_1 kb_25 ?_
  refine r_bipush C dX6_principal_3 kb_20 ?_
  refine r_iload_n C (i := 2) 2 dX6_principal_5 rfl rfl ?_
  refine r_imul (v := nI (20 * p)) C dX6_principal_6 (pk_mul _ _) ?_
  refine r_iadd (v := nI (25 + (20 * p))) C dX6_principal_7 (nI_add _ _) ?_
  refine r_iload_n C (i := 1) 1 dX6_principal_8 rfl rfl ?_
  refine r_iadd (v := nI ((25 + (20 * p)) + n)) C dX6_principal_9 (nI_add _ _) ?_
  refine r_iald (j := (25 + (20 * p)) + n) (v := mI (sR σ p n)) C 0 rfl (by omega) (by decide) (hR.R hp hn) dX6_principal_10 ?_
  exact RT.1 _ _ _ _ _ dX6_principal_11 rfl rfl (rd_i rfl) rfl
set_option maxRecDepth 100000 in
set_option maxHeartbeats 1000000 in
theorem c_X6_isIll {l : Launch} {E : Ev} {r : Nat} {g : Nat → Int32} {σ : Sg} (hR : RepM σ g) (hW : Wf σ) {a n : Nat} (ha : a < sA σ) (hn : n < 20) : Cr l E yX6_isIll cX6_isIll 3 (some FieldType.boolean) 0 0 [.ref r, .int (nI a), .int (nI n)] [(r, .inl (eI E, 255, .inl g))] (some (.int (bP (sI σ a n = 1)))) := by
  have hwP := hW.P
  have hwA := hW.A
  have hwS := hW.S
  have hb := bmM_bit hW a hn
  have hbl := bmM_lt hW a
  refine ct_of (by decide +kernel) (Nat.le_of_ble_eq_true rfl) (fun ω C RT => ?_)
  show ω [(r, .inl (eI E, 255, .inl g))] [(0, .ref r), (1, .int (nI a)), (2, .int (nI n))] [] 0
  refine r_aload_n C (i := 0) 0 dX6_isIll_0 rfl rfl ?_
  refine r_bipush C dX6_isIll_1 kb_15 ?_
  refine r_iload_n C (i := 1) 1 dX6_isIll_3 rfl rfl ?_
  refine r_iadd (v := nI (15 + a)) C dX6_isIll_4 (nI_add _ _) ?_
  refine r_iald (j := 15 + a) (v := nI (bm (fun n => sI σ a n) 20)) C 0 rfl (by omega) (by decide) (hR.I ha) dX6_isIll_5 ?_
  refine r_iload_n C (i := 2) 2 dX6_isIll_6 rfl rfl ?_
  refine r_ishr (v := nI ((bm (fun n => sI σ a n) 20) / 2 ^ n)) C dX6_isIll_7 (v_shr (by omega) (by omega)) ?_
  refine r_iconst C dX6_isIll_8 ki_1 ?_
  refine r_iand (v := nI (((bm (fun n => sI σ a n) 20) / 2 ^ n) % 2)) C dX6_isIll_9 (v_and1 _) ?_
  refine r_iconst C dX6_isIll_10 ki_1 ?_
  refine r_icmp_ne C (c9 := ((bm (fun n => sI σ a n) 20) / 2 ^ n) % 2 ≠ 1) 18 dX6_isIll_11 (by decide) (c_neNN (by omega) (by omega)) (fun h11_1 => ?_) (fun h11_1 => ?_)
  · refine r_iconst C dX6_isIll_18 ki_0 ?_
    exact RT.1 _ _ _ _ _ dX6_isIll_19 rfl nar_0 (rd_i (bP_f (by omega))) rfl
  · refine r_iconst C dX6_isIll_14 ki_1 ?_
    refine r_goto C 19 dX6_isIll_15 (by decide) ?_
    exact RT.1 _ _ _ _ _ dX6_isIll_19 rfl nar_1 (rd_i (bP_t (by omega))) rfl
set_option maxRecDepth 100000 in
set_option maxHeartbeats 1000000 in
theorem c_X6_slipOf {l : Launch} {E : Ev} {r : Nat} {g : Nat → Int32} {σ : Sg} (hR : RepM σ g) (hW : Wf σ) {k j : Nat} (hk : k < sS σ) (hj : j < 4) : Cr l E yX6_slipOf cX6_slipOf 3 (some FieldType.int) 0 0 [.ref r, .int (nI k), .int (nI j)] [(r, .inl (eI E, 255, .inl g))] (some (.int (nI (sL σ k j)))) := by
  have hwP := hW.P
  have hwA := hW.A
  have hwS := hW.S
  refine ct_of (by decide +kernel) (Nat.le_of_ble_eq_true rfl) (fun ω C RT => ?_)
  show ω [(r, .inl (eI E, 255, .inl g))] [(0, .ref r), (1, .int (nI k)), (2, .int (nI j))] [] 0
  refine r_aload_n C (i := 0) 0 dX6_slipOf_0 rfl rfl ?_
  refine r_sipush C dX6_slipOf_1 ks_175 ?_
  refine r_iconst C dX6_slipOf_4 ki_4 ?_
  refine r_iload_n C (i := 1) 1 dX6_slipOf_5 rfl rfl ?_
  refine r_imul (v := nI (4 * k)) C dX6_slipOf_6 (pk_mul _ _) ?_
  refine r_iadd (v := nI (175 + (4 * k))) C dX6_slipOf_7 (nI_add _ _) ?_
  refine r_iload_n C (i := 2) 2 dX6_slipOf_8 rfl rfl ?_
  refine r_iadd (v := nI ((175 + (4 * k)) + j)) C dX6_slipOf_9 (nI_add _ _) ?_
  refine r_iald (j := (175 + (4 * k)) + j) (v := nI (sL σ k j)) C 0 rfl (by omega) (by decide) (hR.L hk hj) dX6_slipOf_10 ?_
  exact RT.1 _ _ _ _ _ dX6_slipOf_11 rfl rfl (rd_i rfl) rfl
set_option maxRecDepth 100000 in
set_option maxHeartbeats 1000000 in
theorem c_X6_count {l : Launch} {E : Ev} {s : Nat} (hs : s < 2147483648) : Cr l E yX6_count cX6_count 3 (some FieldType.int) 0 0 [.int (nI s)] [] (some (.int (nI (cb s 20)))) := by
  refine ct_of (by decide +kernel) (Nat.le_of_ble_eq_true rfl) (fun ω C RT => ?_)
  show ω [] [(0, .int (nI s))] [] 0
  refine r_iconst C dX6_count_0 ki_0 ?_
  refine r_istore_n C (lv' := [(1, .int (nI 0)), (0, .int (nI s))]) dX6_count_1 rfl (by decide) rfl ?_
  refine r_iconst C dX6_count_2 ki_0 ?_
  refine r_istore_n C (lv' := [(2, .int (nI 0)), (1, .int (nI 0)), (0, .int (nI s))]) dX6_count_3 rfl (by decide) rfl ?_
  have loop4_1 : ∀ (dd9 : Nat) (n : Nat) (r : Nat), 20 - n < dd9 → (n ≤ 20) → (r = cb s n) → ω [] [(2, .int (nI n)), (1, .int (nI r)), (0, .int (nI s))] [] 4 := by
    intro dd9
    induction dd9 with
    | zero => intro n r hd; exact absurd hd (Nat.not_lt_zero _)
    | succ dd9 ih2 =>
      intro n r hd hle_n he_r
      have hcl := cb_le s n
      refine r_iload_n C (i := 2) 0 dX6_count_4 rfl rfl ?_
      refine r_bipush C dX6_count_5 kb_20 ?_
      refine r_icmp_ge C (c9 := 20 ≤ n) 24 dX6_count_7 (by decide) (c_leNN (by omega) (by omega)) (fun h7_3 => ?_) (fun h7_3 => ?_)
      · refine r_iload_n C (i := 1) 1 dX6_count_24 rfl rfl ?_
        exact RT.1 _ _ _ _ _ dX6_count_25 rfl rfl (rd_i (congrArg nI (by rw [he_r, (by omega : n = 20)]))) rfl
      · refine r_iload_n C (i := 1) 1 dX6_count_10 rfl rfl ?_
        refine r_iload_n C (i := 0) 2 dX6_count_11 rfl rfl ?_
        refine r_iload_n C (i := 2) 0 dX6_count_12 rfl rfl ?_
        refine r_ishr (v := nI (s / 2 ^ n)) C dX6_count_13 (v_shr (by omega) (by omega)) ?_
        refine r_iconst C dX6_count_14 ki_1 ?_
        refine r_iand (v := nI ((s / 2 ^ n) % 2)) C dX6_count_15 (v_and1 _) ?_
        refine r_iadd (v := nI (r + ((s / 2 ^ n) % 2))) C dX6_count_16 (nI_add _ _) ?_
        refine r_istore_n C (lv' := [(1, .int (nI (r + ((s / 2 ^ n) % 2)))), (2, .int (nI n)), (0, .int (nI s))]) dX6_count_17 rfl (by decide) rfl ?_
        refine r_iinc C (lv' := [(2, .int (nI (n + 1))), (1, .int (nI (r + ((s / 2 ^ n) % 2)))), (0, .int (nI s))]) (v := nI (n + 1)) 1 dX6_count_18 rfl (v_inc _) (by decide) rfl ?_
        refine r_goto C 4 dX6_count_21 (by decide) ?_
        exact ih2 (n + 1) (r + ((s / 2 ^ n) % 2)) (by omega) (by omega) (by rw [cb, he_r])
  exact loop4_1 _ 0 0 (Nat.lt_succ_self _) (by omega) rfl
set_option maxRecDepth 100000 in
set_option maxHeartbeats 1000000 in
theorem c_X6_can {l : Launch} {E : Ev} {r : Nat} {g : Nat → Int32} {σ : Sg} (hR : RepM σ g) (hW : Wf σ) {n a u : Nat} (hn : n < 20) (ha : a < sA σ) (hu : u < 2147483648) : Cr l E yX6_can cX6_can 4 (some FieldType.boolean) 1 22 [.ref r, .int (nI n), .int (nI a), .int (nI u)] [(r, .inl (eI E, 255, .inl g))] (some (.int (bP (can σ n u a)))) := by
  have hwP := hW.P
  have hwA := hW.A
  have hwS := hW.S
  have hi := hW.I a n
  have hu2 : u / 2 ^ a % 2 < 2 := Nat.mod_lt _ (by decide)
  refine ct_of (by decide +kernel) (Nat.le_of_ble_eq_true rfl) (fun ω C RT => ?_)
  show ω [(r, .inl (eI E, 255, .inl g))] [(0, .ref r), (1, .int (nI n)), (2, .int (nI a)), (3, .int (nI u))] [] 0
  refine r_iload_n C (i := 2) 2 dX6_can_0 rfl rfl ?_
  refine r_iconst C dX6_can_1 ki_m1 ?_
  refine r_icmp_eqF C (tgt := 26) dX6_can_2 (by decide) (fun z => ((by omega) : ¬ (a + 1 = 0)) ((c_eqNM (by omega) (by omega)).mp z)) ?_
  refine r_aload_n C (i := 0) 0 dX6_can_5 rfl rfl ?_
  refine r_iload_n C (i := 2) 2 dX6_can_6 rfl rfl ?_
  refine r_iload_n C (i := 1) 1 dX6_can_7 rfl rfl ?_
  refine r_readS (rest := []) C (c_X6_isIll (r := r) (g := g) (σ := σ) (a := a) (n := n) (hR := hR) (hW := hW) (ha := (by omega)) (hn := (by omega))) lk_X6_isIll w_5_221 [0] dX6_can_8 rfl rfl rfl ⟨by decide, by decide⟩ (Nat.le_of_ble_eq_true rfl) (st' := [.int (bP (sI σ a n = 1))]) rfl ?_
  refine r_if_ne C (y := 0) (c9 := sI σ a n = 1) 26 dX6_can_11 (by decide) z_neB (fun h11_1 => ?_) (fun h11_1 => ?_)
  · refine r_iconst C dX6_can_26 ki_0 ?_
    exact RT.1 _ _ _ _ _ dX6_can_27 rfl nar_0 (rd_i (bP_f (fun z => by have := z.1; omega))) rfl
  · refine r_iload_n C (i := 3) 3 dX6_can_14 rfl rfl ?_
    refine r_iload_n C (i := 2) 2 dX6_can_15 rfl rfl ?_
    refine r_ishr (v := nI (u / 2 ^ a)) C dX6_can_16 (v_shr (by omega) (by omega)) ?_
    refine r_iconst C dX6_can_17 ki_1 ?_
    refine r_iand (v := nI ((u / 2 ^ a) % 2)) C dX6_can_18 (v_and1 _) ?_
    refine r_if_ne C (y := 0) (c9 := (u / 2 ^ a) % 2 ≠ 0) 26 dX6_can_19 (by decide) (z_neN (by omega)) (fun h19_2 => ?_) (fun h19_2 => ?_)
    · refine r_iconst C dX6_can_26 ki_0 ?_
      exact RT.1 _ _ _ _ _ dX6_can_27 rfl nar_0 (rd_i (bP_f (fun z => by have := (can_bit u a).mpr z.2; omega))) rfl
    · refine r_iconst C dX6_can_22 ki_1 ?_
      refine r_goto C 27 dX6_can_23 (by decide) ?_
      exact RT.1 _ _ _ _ _ dX6_can_27 rfl nar_1 (rd_i (bP_t ⟨by omega, (can_bit u a).mp (by omega)⟩)) rfl
set_option maxRecDepth 100000 in
set_option maxHeartbeats 1000000 in
theorem c_X6_can__m {l : Launch} {E : Ev} {r : Nat} {g : Nat → Int32} {σ : Sg} (hR : RepM σ g) (hW : Wf σ) {n x u : Nat} (hn : n < 20) (hx : x ≤ sA σ) (hu : u < 2147483648) : Cr l E yX6_can cX6_can 4 (some FieldType.boolean) 1 22 [.ref r, .int (nI n), .int (mI x), .int (nI u)] [(r, .inl (eI E, 255, .inl g))] (some (.int (bP (x ≠ 0 ∧ can σ n u (x - 1))))) := by
  have hwP := hW.P
  have hwA := hW.A
  have hwS := hW.S
  refine ct_of (by decide +kernel) (Nat.le_of_ble_eq_true rfl) (fun ω C RT => ?_)
  show ω [(r, .inl (eI E, 255, .inl g))] [(0, .ref r), (1, .int (nI n)), (2, .int (mI x)), (3, .int (nI u))] [] 0
  refine r_iload_n C (i := 2) 2 dX6_can_0 rfl rfl ?_
  refine r_iconst C dX6_can_1 ki_m1 ?_
  refine r_icmp_eq C (c9 := x = 0) 26 dX6_can_2 (by decide) (c_eqMM (by omega) (by omega)) (fun h2_1 => ?_) (fun h2_1 => ?_)
  · refine r_iconst C dX6_can_26 ki_0 ?_
    exact RT.1 _ _ _ _ _ dX6_can_27 rfl nar_0 (rd_i (bP_f (fun z => z.1 h2_1))) rfl
  · obtain ⟨a, rfl⟩ : ∃ a, x = a + 1 := ⟨x - 1, by omega⟩
    refine r_lo (lv' := [(0, .ref r), (1, .int (nI n)), (2, .int (nI a)), (3, .int (nI u))]) (by rw [mI_s]) ?_
    have hi := hW.I a n
    have hu2 : u / 2 ^ a % 2 < 2 := Nat.mod_lt _ (by decide)
    refine r_aload_n C (i := 0) 0 dX6_can_5 rfl rfl ?_
    refine r_iload_n C (i := 2) 2 dX6_can_6 rfl rfl ?_
    refine r_iload_n C (i := 1) 1 dX6_can_7 rfl rfl ?_
    refine r_readS (rest := []) C (c_X6_isIll (r := r) (g := g) (σ := σ) (a := a) (n := n) (hR := hR) (hW := hW) (ha := (by omega)) (hn := (by omega))) lk_X6_isIll w_5_221 [0] dX6_can_8 rfl rfl rfl ⟨by decide, by decide⟩ (Nat.le_of_ble_eq_true rfl) (st' := [.int (bP (sI σ a n = 1))]) rfl ?_
    refine r_if_ne C (y := 0) (c9 := sI σ a n = 1) 26 dX6_can_11 (by decide) z_neB (fun h11_2 => ?_) (fun h11_2 => ?_)
    · refine r_iconst C dX6_can_26 ki_0 ?_
      exact RT.1 _ _ _ _ _ dX6_can_27 rfl nar_0 (rd_i (bP_f (fun z => by have := z.2.1; rw [Nat.add_sub_cancel] at this; omega))) rfl
    · refine r_iload_n C (i := 3) 3 dX6_can_14 rfl rfl ?_
      refine r_iload_n C (i := 2) 2 dX6_can_15 rfl rfl ?_
      refine r_ishr (v := nI (u / 2 ^ a)) C dX6_can_16 (v_shr (by omega) (by omega)) ?_
      refine r_iconst C dX6_can_17 ki_1 ?_
      refine r_iand (v := nI ((u / 2 ^ a) % 2)) C dX6_can_18 (v_and1 _) ?_
      refine r_if_ne C (y := 0) (c9 := (u / 2 ^ a) % 2 ≠ 0) 26 dX6_can_19 (by decide) (z_neN (by omega)) (fun h19_3 => ?_) (fun h19_3 => ?_)
      · refine r_iconst C dX6_can_26 ki_0 ?_
        exact RT.1 _ _ _ _ _ dX6_can_27 rfl nar_0 (rd_i (bP_f (fun z => by have := (can_bit u a).mpr z.2.2; omega))) rfl
      · refine r_iconst C dX6_can_22 ki_1 ?_
        refine r_goto C 27 dX6_can_23 (by decide) ?_
        exact RT.1 _ _ _ _ _ dX6_can_27 rfl nar_1 (rd_i (bP_t ⟨by omega, by rw [Nat.add_sub_cancel]; exact ⟨by omega, (can_bit u a).mp (by omega)⟩⟩)) rfl
set_option maxRecDepth 100000 in
set_option maxHeartbeats 1000000 in
theorem c_X6_isOtherPrincipal {l : Launch} {E : Ev} {r : Nat} {g : Nat → Int32} {σ : Sg} (hR : RepM σ g) (hW : Wf σ) {n p a : Nat} (hn : n < 20) (hp : p < 2147483648) (ha : a < 2147483648) : Cr l E yX6_isOtherPrincipal cX6_isOtherPrincipal 5 (some FieldType.boolean) 1 22 [.ref r, .int (nI n), .int (nI p), .int (nI a)] [(r, .inl (eI E, 255, .inl g))] (some (.int (bP (oth σ n p a)))) := by
  have hwP := hW.P
  have hwA := hW.A
  have hwS := hW.S
  refine ct_of (by decide +kernel) (Nat.le_of_ble_eq_true rfl) (fun ω C RT => ?_)
  show ω [(r, .inl (eI E, 255, .inl g))] [(0, .ref r), (1, .int (nI n)), (2, .int (nI p)), (3, .int (nI a))] [] 0
  refine r_iconst C dX6_isOtherPrincipal_0 ki_0 ?_
  refine r_istore C (lv' := [(4, .int (nI 0)), (0, .ref r), (1, .int (nI n)), (2, .int (nI p)), (3, .int (nI a))]) dX6_isOtherPrincipal_1 (by decide) rfl ?_
  have loop3_1 : ∀ (dd9 : Nat) (q : Nat), sP σ - q < dd9 → (q ≤ sP σ) → (∀ j, j < q → ¬ (j ≠ p ∧ sR σ j n = a + 1)) → ω [(r, .inl (eI E, 255, .inl g))] [(4, .int (nI q)), (0, .ref r), (1, .int (nI n)), (2, .int (nI p)), (3, .int (nI a))] [] 3 := by
    intro dd9
    induction dd9 with
    | zero => intro q hd; exact absurd hd (Nat.not_lt_zero _)
    | succ dd9 ih2 =>
      intro q hd hle_q hno
      refine r_iload C (i := 4) 0 dX6_isOtherPrincipal_3 rfl ?_
      refine r_aload_n C (i := 0) 1 dX6_isOtherPrincipal_5 rfl rfl ?_
      refine r_iconst C dX6_isOtherPrincipal_6 ki_0 ?_
      refine r_iald (j := 0) (v := nI (sP σ)) C 0 rfl (by omega) (by decide) hR.P dX6_isOtherPrincipal_7 ?_
      refine r_icmp_ge C (c9 := sP σ ≤ q) 36 dX6_isOtherPrincipal_8 (by decide) (c_leNN (by omega) (by omega)) (fun h8_3 => ?_) (fun h8_3 => ?_)
      · refine r_iconst C dX6_isOtherPrincipal_36 ki_0 ?_
        exact RT.1 _ _ _ _ _ dX6_isOtherPrincipal_37 rfl nar_0 (rd_i (bP_f (fun z => by obtain ⟨j, z1, z2, z3⟩ := oth_iff.mp z; exact hno j (by omega) ⟨z2, z3⟩))) rfl
      · refine r_iload C (i := 4) 0 dX6_isOtherPrincipal_11 rfl ?_
        refine r_iload_n C (i := 2) 3 dX6_isOtherPrincipal_13 rfl rfl ?_
        refine r_icmp_eq C (c9 := q = p) 30 dX6_isOtherPrincipal_14 (by decide) (c_eqNN (by omega) (by omega)) (fun h14_4 => ?_) (fun h14_4 => ?_)
        · refine r_iinc C (lv' := [(4, .int (nI (q + 1))), (0, .ref r), (1, .int (nI n)), (2, .int (nI p)), (3, .int (nI a))]) (v := nI (q + 1)) 0 dX6_isOtherPrincipal_30 rfl (v_inc _) (by decide) rfl ?_
          refine r_goto C 3 dX6_isOtherPrincipal_33 (by decide) ?_
          exact ih2 (q + 1) (by omega) (by omega) (lt_step hno (fun z => z.1 (by omega)))
        · have hq := hW.R (show q < sP σ by omega) hn
          refine r_aload_n C (i := 0) 1 dX6_isOtherPrincipal_17 rfl rfl ?_
          refine r_iload_n C (i := 1) 2 dX6_isOtherPrincipal_18 rfl rfl ?_
          refine r_iload C (i := 4) 0 dX6_isOtherPrincipal_19 rfl ?_
          refine r_readS (rest := []) C (c_X6_principal (r := r) (g := g) (σ := σ) (n := n) (p := q) (hR := hR) (hW := hW) (hn := (by omega)) (hp := (by omega))) lk_X6_principal w_5_160 [0] dX6_isOtherPrincipal_21 rfl rfl rfl ⟨by decide, by decide⟩ (Nat.le_of_ble_eq_true rfl) (st' := [.int (mI (sR σ q n))]) rfl ?_
          refine r_iload_n C (i := 3) 4 dX6_isOtherPrincipal_24 rfl rfl ?_
          refine r_icmp_ne C (c9 := sR σ q n ≠ a + 1) 30 dX6_isOtherPrincipal_25 (by decide) (c_neMN (by omega) (by omega)) (fun h25_5 => ?_) (fun h25_5 => ?_)
          · refine r_iinc C (lv' := [(4, .int (nI (q + 1))), (0, .ref r), (1, .int (nI n)), (2, .int (nI p)), (3, .int (nI a))]) (v := nI (q + 1)) 0 dX6_isOtherPrincipal_30 rfl (v_inc _) (by decide) rfl ?_
            refine r_goto C 3 dX6_isOtherPrincipal_33 (by decide) ?_
            exact ih2 (q + 1) (by omega) (by omega) (lt_step hno (fun z => h25_5 z.2))
          · refine r_iconst C dX6_isOtherPrincipal_28 ki_1 ?_
            exact RT.1 _ _ _ _ _ dX6_isOtherPrincipal_29 rfl nar_1 (rd_i (bP_t (oth_iff.mpr ⟨q, by omega, by omega, by omega⟩))) rfl
  exact loop3_1 _ 0 (Nat.lt_succ_self _) (by omega) (fun j hj => absurd hj (Nat.not_lt_zero j))
theorem slF_nn {σ : Sg} {n p u k : Nat} (h : ¬ (sL σ k 0 = n ∧ sL σ k 1 = p ∧ can σ n u (sL σ k 2) ∧ (slF σ n p u k = 0 ∨ sL σ (slF σ n p u k - 1) 3 ≤ sL σ k 3))) : slF σ n p u k = slF σ n p u (k + 1) := by rw [slF, if_neg h]
theorem slF_yy {σ : Sg} {n p u k : Nat} (h1 : sL σ k 0 = n) (h2 : sL σ k 1 = p) (h3 : can σ n u (sL σ k 2)) (h4 : slF σ n p u k = 0 ∨ sL σ (slF σ n p u k - 1) 3 ≤ sL σ k 3) : k + 1 = slF σ n p u (k + 1) := by rw [slF, if_pos ⟨h1, h2, h3, h4⟩]
set_option maxRecDepth 100000 in
set_option maxHeartbeats 1000000 in
theorem c_X6_slipFor {l : Launch} {E : Ev} {r : Nat} {g : Nat → Int32} {σ : Sg} (hR : RepM σ g) (hW : Wf σ) {n p u : Nat} (hn : n < 20) (hp : p < 2147483648) (hu : u < 2147483648) : Cr l E yX6_slipFor cX6_slipFor 7 (some FieldType.int) 2 45 [.ref r, .int (nI n), .int (nI p), .int (nI u)] [(r, .inl (eI E, 255, .inl g))] (some (.int (mI (sl σ n p u)))) := by
  have hwP := hW.P
  have hwA := hW.A
  have hwS := hW.S
  refine ct_of (by decide +kernel) (Nat.le_of_ble_eq_true rfl) (fun ω C RT => ?_)
  show ω [(r, .inl (eI E, 255, .inl g))] [(0, .ref r), (1, .int (nI n)), (2, .int (nI p)), (3, .int (nI u))] [] 0
  refine r_iconst C dX6_slipFor_0 ki_m1 ?_
  refine r_istore C (lv' := [(4, .int (mI 0)), (0, .ref r), (1, .int (nI n)), (2, .int (nI p)), (3, .int (nI u))]) dX6_slipFor_1 (by decide) rfl ?_
  refine r_iconst C dX6_slipFor_3 ki_0 ?_
  refine r_istore C (lv' := [(5, .int (nI 0)), (4, .int (mI 0)), (0, .ref r), (1, .int (nI n)), (2, .int (nI p)), (3, .int (nI u))]) dX6_slipFor_4 (by decide) rfl ?_
  have loop6_1 : ∀ (dd9 : Nat) (k : Nat) (b : Nat), sS σ - k < dd9 → (k ≤ sS σ) → (b = slF σ n p u k) → ω [(r, .inl (eI E, 255, .inl g))] [(5, .int (nI k)), (4, .int (mI b)), (0, .ref r), (1, .int (nI n)), (2, .int (nI p)), (3, .int (nI u))] [] 6 := by
    intro dd9
    induction dd9 with
    | zero => intro k b hd; exact absurd hd (Nat.not_lt_zero _)
    | succ dd9 ih2 =>
      intro k b hd hk he_b
      have hbk : b ≤ k := by rw [he_b]; exact slF_le σ n p u k
      refine r_iload C (i := 5) 0 dX6_slipFor_6 rfl ?_
      refine r_aload_n C (i := 0) 2 dX6_slipFor_8 rfl rfl ?_
      refine r_iconst C dX6_slipFor_9 ki_2 ?_
      refine r_iald (j := 2) (v := nI (sS σ)) C 0 rfl (by omega) (by decide) hR.S dX6_slipFor_10 ?_
      refine r_icmp_ge C (c9 := sS σ ≤ k) 102 dX6_slipFor_11 (by decide) (c_leNN (by omega) (by omega)) (fun h11_3 => ?_) (fun h11_3 => ?_)
      · refine r_iload C (i := 4) 1 dX6_slipFor_102 rfl ?_
        exact RT.1 _ _ _ _ _ dX6_slipFor_104 rfl rfl (rd_i (congrArg mI (by rw [he_b, (by omega : k = sS σ)]; rfl))) rfl
      · have hl := hW.L (show k < sS σ by omega)
        refine r_aload_n C (i := 0) 2 dX6_slipFor_14 rfl rfl ?_
        refine r_iload C (i := 5) 0 dX6_slipFor_15 rfl ?_
        refine r_iconst C dX6_slipFor_17 ki_0 ?_
        refine r_readS (rest := []) C (c_X6_slipOf (r := r) (g := g) (σ := σ) (k := k) (j := 0) (hR := hR) (hW := hW) (hk := (by omega)) (hj := (by omega))) lk_X6_slipOf w_5_208 [0] dX6_slipFor_18 rfl rfl rfl ⟨by decide, by decide⟩ (Nat.le_of_ble_eq_true rfl) (st' := [.int (nI (sL σ k 0))]) rfl ?_
        refine r_iload_n C (i := 1) 3 dX6_slipFor_21 rfl rfl ?_
        refine r_icmp_ne C (c9 := sL σ k 0 ≠ n) 56 dX6_slipFor_22 (by decide) (c_neNN (by omega) (by omega)) (fun h22_4 => ?_) (fun h22_4 => ?_)
        · refine r_iconst C dX6_slipFor_56 ki_0 ?_
          refine r_istore C (lv' := [(6, .int (nI 0)), (5, .int (nI k)), (4, .int (mI b)), (0, .ref r), (1, .int (nI n)), (2, .int (nI p)), (3, .int (nI u))]) dX6_slipFor_57 (by decide) rfl ?_
          refine r_iload C (i := 6) 0 dX6_slipFor_59 rfl ?_
          refine r_if_eqT C (y := 0) 92 dX6_slipFor_61 (by decide) ((z_eqN (by omega)).mpr (by decide)) ?_
          refine r_iload C (i := 4) 2 dX6_slipFor_92 rfl ?_
          refine r_istore C (lv' := [(4, .int (mI b)), (6, .int (nI 0)), (5, .int (nI k)), (0, .ref r), (1, .int (nI n)), (2, .int (nI p)), (3, .int (nI u))]) dX6_slipFor_94 (by decide) rfl ?_
          refine r_iinc C (lv' := [(5, .int (nI (k + 1))), (4, .int (mI b)), (6, .int (nI 0)), (0, .ref r), (1, .int (nI n)), (2, .int (nI p)), (3, .int (nI u))]) (v := nI (k + 1)) 2 dX6_slipFor_96 rfl (v_inc _) (by decide) rfl ?_
          refine r_goto C 6 dX6_slipFor_99 (by decide) ?_
          refine r_lv (lv' := [(5, .int (nI (k + 1))), (4, .int (mI b)), (0, .ref r), (1, .int (nI n)), (2, .int (nI p)), (3, .int (nI u))]) C [0, 1, 3, 4, 5, 6] rfl ?_
          exact ih2 (k + 1) b (by omega) (by omega) (by rw [he_b]; exact slF_nn (fun z => h22_4 z.1))
        · refine r_aload_n C (i := 0) 2 dX6_slipFor_25 rfl rfl ?_
          refine r_iload C (i := 5) 0 dX6_slipFor_26 rfl ?_
          refine r_iconst C dX6_slipFor_28 ki_1 ?_
          refine r_readS (rest := []) C (c_X6_slipOf (r := r) (g := g) (σ := σ) (k := k) (j := 1) (hR := hR) (hW := hW) (hk := (by omega)) (hj := (by omega))) lk_X6_slipOf w_5_208 [0] dX6_slipFor_29 rfl rfl rfl ⟨by decide, by decide⟩ (Nat.le_of_ble_eq_true rfl) (st' := [.int (nI (sL σ k 1))]) rfl ?_
          refine r_iload_n C (i := 2) 4 dX6_slipFor_32 rfl rfl ?_
          refine r_icmp_ne C (c9 := sL σ k 1 ≠ p) 56 dX6_slipFor_33 (by decide) (c_neNN (by omega) (by omega)) (fun h33_5 => ?_) (fun h33_5 => ?_)
          · refine r_iconst C dX6_slipFor_56 ki_0 ?_
            refine r_istore C (lv' := [(6, .int (nI 0)), (5, .int (nI k)), (4, .int (mI b)), (0, .ref r), (1, .int (nI n)), (2, .int (nI p)), (3, .int (nI u))]) dX6_slipFor_57 (by decide) rfl ?_
            refine r_iload C (i := 6) 0 dX6_slipFor_59 rfl ?_
            refine r_if_eqT C (y := 0) 92 dX6_slipFor_61 (by decide) ((z_eqN (by omega)).mpr (by decide)) ?_
            refine r_iload C (i := 4) 2 dX6_slipFor_92 rfl ?_
            refine r_istore C (lv' := [(4, .int (mI b)), (6, .int (nI 0)), (5, .int (nI k)), (0, .ref r), (1, .int (nI n)), (2, .int (nI p)), (3, .int (nI u))]) dX6_slipFor_94 (by decide) rfl ?_
            refine r_iinc C (lv' := [(5, .int (nI (k + 1))), (4, .int (mI b)), (6, .int (nI 0)), (0, .ref r), (1, .int (nI n)), (2, .int (nI p)), (3, .int (nI u))]) (v := nI (k + 1)) 2 dX6_slipFor_96 rfl (v_inc _) (by decide) rfl ?_
            refine r_goto C 6 dX6_slipFor_99 (by decide) ?_
            refine r_lv (lv' := [(5, .int (nI (k + 1))), (4, .int (mI b)), (0, .ref r), (1, .int (nI n)), (2, .int (nI p)), (3, .int (nI u))]) C [0, 1, 3, 4, 5, 6] rfl ?_
            exact ih2 (k + 1) b (by omega) (by omega) (by rw [he_b]; exact slF_nn (fun z => h33_5 z.2.1))
          · refine r_aload_n C (i := 0) 2 dX6_slipFor_36 rfl rfl ?_
            refine r_iload_n C (i := 1) 3 dX6_slipFor_37 rfl rfl ?_
            refine r_aload_n C (i := 0) 2 dX6_slipFor_38 rfl rfl ?_
            refine r_iload C (i := 5) 0 dX6_slipFor_39 rfl ?_
            refine r_iconst C dX6_slipFor_41 ki_2 ?_
            refine r_readS (rest := [.int (nI n), .ref r]) C (c_X6_slipOf (r := r) (g := g) (σ := σ) (k := k) (j := 2) (hR := hR) (hW := hW) (hk := (by omega)) (hj := (by omega))) lk_X6_slipOf w_5_208 [0] dX6_slipFor_42 rfl rfl rfl ⟨by decide, by decide⟩ (Nat.le_of_ble_eq_true rfl) (st' := [.int (nI (sL σ k 2)), .int (nI n), .ref r]) rfl ?_
            refine r_iload_n C (i := 3) 5 dX6_slipFor_45 rfl rfl ?_
            refine r_readS (rest := []) C (c_X6_can (r := r) (g := g) (σ := σ) (n := n) (a := sL σ k 2) (u := u) (hR := hR) (hW := hW) (hn := (by omega)) (ha := (by omega)) (hu := (by omega))) lk_X6_can w_5_218 [0] dX6_slipFor_46 rfl rfl rfl ⟨by decide, by decide⟩ (Nat.le_of_ble_eq_true rfl) (st' := [.int (bP (can σ n u (sL σ k 2)))]) rfl ?_
            refine r_if_eq C (y := 0) (c9 := ¬ (can σ n u (sL σ k 2))) 56 dX6_slipFor_49 (by decide) z_eqB (fun h49_6 => ?_) (fun h49_6 => ?_)
            · refine r_iconst C dX6_slipFor_56 ki_0 ?_
              refine r_istore C (lv' := [(6, .int (nI 0)), (5, .int (nI k)), (4, .int (mI b)), (0, .ref r), (1, .int (nI n)), (2, .int (nI p)), (3, .int (nI u))]) dX6_slipFor_57 (by decide) rfl ?_
              refine r_iload C (i := 6) 0 dX6_slipFor_59 rfl ?_
              refine r_if_eqT C (y := 0) 92 dX6_slipFor_61 (by decide) ((z_eqN (by omega)).mpr (by decide)) ?_
              refine r_iload C (i := 4) 2 dX6_slipFor_92 rfl ?_
              refine r_istore C (lv' := [(4, .int (mI b)), (6, .int (nI 0)), (5, .int (nI k)), (0, .ref r), (1, .int (nI n)), (2, .int (nI p)), (3, .int (nI u))]) dX6_slipFor_94 (by decide) rfl ?_
              refine r_iinc C (lv' := [(5, .int (nI (k + 1))), (4, .int (mI b)), (6, .int (nI 0)), (0, .ref r), (1, .int (nI n)), (2, .int (nI p)), (3, .int (nI u))]) (v := nI (k + 1)) 2 dX6_slipFor_96 rfl (v_inc _) (by decide) rfl ?_
              refine r_goto C 6 dX6_slipFor_99 (by decide) ?_
              refine r_lv (lv' := [(5, .int (nI (k + 1))), (4, .int (mI b)), (0, .ref r), (1, .int (nI n)), (2, .int (nI p)), (3, .int (nI u))]) C [0, 1, 3, 4, 5, 6] rfl ?_
              exact ih2 (k + 1) b (by omega) (by omega) (by rw [he_b]; exact slF_nn (fun z => h49_6 z.2.2.1))
            · replace h49_6 : can σ n u (sL σ k 2) := Decidable.not_not.mp h49_6
              refine r_iconst C dX6_slipFor_52 ki_1 ?_
              refine r_goto C 57 dX6_slipFor_53 (by decide) ?_
              refine r_istore C (lv' := [(6, .int (nI 1)), (5, .int (nI k)), (4, .int (mI b)), (0, .ref r), (1, .int (nI n)), (2, .int (nI p)), (3, .int (nI u))]) dX6_slipFor_57 (by decide) rfl ?_
              refine r_iload C (i := 6) 0 dX6_slipFor_59 rfl ?_
              refine r_if_eqF C (y := 0) (tgt := 92) dX6_slipFor_61 (by decide) (fun z => ((by decide) : ¬ (1 = 0)) ((z_eqN (by omega)).mp z)) ?_
              refine r_iload C (i := 4) 2 dX6_slipFor_64 rfl ?_
              refine r_iconst C dX6_slipFor_66 ki_m1 ?_
              refine r_icmp_eq C (c9 := b = 0) 87 dX6_slipFor_67 (by decide) (c_eqMM (by omega) (by omega)) (fun h67_7 => ?_) (fun h67_7 => ?_)
              · refine r_iload C (i := 5) 1 dX6_slipFor_87 rfl ?_
                refine r_goto C 94 dX6_slipFor_89 (by decide) ?_
                refine r_istore C (lv' := [(4, .int (nI k)), (6, .int (nI 1)), (5, .int (nI k)), (0, .ref r), (1, .int (nI n)), (2, .int (nI p)), (3, .int (nI u))]) dX6_slipFor_94 (by decide) rfl ?_
                refine r_iinc C (lv' := [(5, .int (nI (k + 1))), (4, .int (nI k)), (6, .int (nI 1)), (0, .ref r), (1, .int (nI n)), (2, .int (nI p)), (3, .int (nI u))]) (v := nI (k + 1)) 2 dX6_slipFor_96 rfl (v_inc _) (by decide) rfl ?_
                refine r_goto C 6 dX6_slipFor_99 (by decide) ?_
                refine r_lo (lv' := [(5, .int (nI (k + 1))), (4, .int (mI (k + 1))), (6, .int (nI 1)), (0, .ref r), (1, .int (nI n)), (2, .int (nI p)), (3, .int (nI u))]) (by rw [mI_s]) ?_
                refine r_lv (lv' := [(5, .int (nI (k + 1))), (4, .int (mI (k + 1))), (0, .ref r), (1, .int (nI n)), (2, .int (nI p)), (3, .int (nI u))]) C [0, 1, 3, 4, 5, 6] rfl ?_
                exact ih2 (k + 1) (k + 1) (by omega) (by omega) (slF_yy (by omega) (by omega) h49_6 (Or.inl (by omega)))
              · refine r_lo (lv' := [(6, .int (nI 1)), (5, .int (nI k)), (4, .int (nI (b - 1))), (0, .ref r), (1, .int (nI n)), (2, .int (nI p)), (3, .int (nI u))]) (by rw [show b = b - 1 + 1 from by omega, mI_s, Nat.add_sub_cancel]) ?_
                have hl2 := hW.L (show b - 1 < sS σ by omega)
                refine r_aload_n C (i := 0) 3 dX6_slipFor_70 rfl rfl ?_
                refine r_iload C (i := 5) 1 dX6_slipFor_71 rfl ?_
                refine r_iconst C dX6_slipFor_73 ki_3 ?_
                refine r_readS (rest := []) C (c_X6_slipOf (r := r) (g := g) (σ := σ) (k := k) (j := 3) (hR := hR) (hW := hW) (hk := (by omega)) (hj := (by omega))) lk_X6_slipOf w_5_208 [0] dX6_slipFor_74 rfl rfl rfl ⟨by decide, by decide⟩ (Nat.le_of_ble_eq_true rfl) (st' := [.int (nI (sL σ k 3))]) rfl ?_
                refine r_aload_n C (i := 0) 3 dX6_slipFor_77 rfl rfl ?_
                refine r_iload C (i := 4) 2 dX6_slipFor_78 rfl ?_
                refine r_iconst C dX6_slipFor_80 ki_3 ?_
                refine r_readS (rest := [.int (nI (sL σ k 3))]) C (c_X6_slipOf (r := r) (g := g) (σ := σ) (k := b - 1) (j := 3) (hR := hR) (hW := hW) (hk := (by omega)) (hj := (by omega))) lk_X6_slipOf w_5_208 [0] dX6_slipFor_81 rfl rfl rfl ⟨by decide, by decide⟩ (Nat.le_of_ble_eq_true rfl) (st' := [.int (nI (sL σ (b - 1) 3)), .int (nI (sL σ k 3))]) rfl ?_
                refine r_icmp_lt C (c9 := sL σ k 3 < sL σ (b - 1) 3) 92 dX6_slipFor_84 (by decide) (c_ltNN (by omega) (by omega)) (fun h84_8 => ?_) (fun h84_8 => ?_)
                · refine r_iload C (i := 4) 2 dX6_slipFor_92 rfl ?_
                  refine r_istore C (lv' := [(4, .int (nI (b - 1))), (6, .int (nI 1)), (5, .int (nI k)), (0, .ref r), (1, .int (nI n)), (2, .int (nI p)), (3, .int (nI u))]) dX6_slipFor_94 (by decide) rfl ?_
                  refine r_iinc C (lv' := [(5, .int (nI (k + 1))), (4, .int (nI (b - 1))), (6, .int (nI 1)), (0, .ref r), (1, .int (nI n)), (2, .int (nI p)), (3, .int (nI u))]) (v := nI (k + 1)) 2 dX6_slipFor_96 rfl (v_inc _) (by decide) rfl ?_
                  refine r_goto C 6 dX6_slipFor_99 (by decide) ?_
                  refine r_lo (lv' := [(5, .int (nI (k + 1))), (4, .int (mI (b - 1 + 1))), (6, .int (nI 1)), (0, .ref r), (1, .int (nI n)), (2, .int (nI p)), (3, .int (nI u))]) (by rw [mI_s]) ?_
                  refine r_lv (lv' := [(5, .int (nI (k + 1))), (4, .int (mI (b - 1 + 1))), (0, .ref r), (1, .int (nI n)), (2, .int (nI p)), (3, .int (nI u))]) C [0, 1, 3, 4, 5, 6] rfl ?_
                  exact ih2 (k + 1) (b - 1 + 1) (by omega) (by omega) (by rw [show b - 1 + 1 = b by omega, he_b]; exact slF_nn (fun z => z.2.2.2.elim (fun e => by rw [← he_b] at e; omega) (fun e => by rw [← he_b] at e; omega)))
                · refine r_iload C (i := 5) 1 dX6_slipFor_87 rfl ?_
                  refine r_goto C 94 dX6_slipFor_89 (by decide) ?_
                  refine r_istore C (lv' := [(4, .int (nI k)), (6, .int (nI 1)), (5, .int (nI k)), (0, .ref r), (1, .int (nI n)), (2, .int (nI p)), (3, .int (nI u))]) dX6_slipFor_94 (by decide) rfl ?_
                  refine r_iinc C (lv' := [(5, .int (nI (k + 1))), (4, .int (nI k)), (6, .int (nI 1)), (0, .ref r), (1, .int (nI n)), (2, .int (nI p)), (3, .int (nI u))]) (v := nI (k + 1)) 2 dX6_slipFor_96 rfl (v_inc _) (by decide) rfl ?_
                  refine r_goto C 6 dX6_slipFor_99 (by decide) ?_
                  refine r_lo (lv' := [(5, .int (nI (k + 1))), (4, .int (mI (k + 1))), (6, .int (nI 1)), (0, .ref r), (1, .int (nI n)), (2, .int (nI p)), (3, .int (nI u))]) (by rw [mI_s]) ?_
                  refine r_lv (lv' := [(5, .int (nI (k + 1))), (4, .int (mI (k + 1))), (0, .ref r), (1, .int (nI n)), (2, .int (nI p)), (3, .int (nI u))]) C [0, 1, 3, 4, 5, 6] rfl ?_
                  exact ih2 (k + 1) (k + 1) (by omega) (by omega) (slF_yy (by omega) (by omega) h49_6 (Or.inr (by rw [← he_b]; omega)))
  exact loop6_1 _ 0 0 (Nat.lt_succ_self _) (by omega) rfl
set_option maxRecDepth 100000 in
set_option maxHeartbeats 1000000 in
theorem c_X6_understudyFor {l : Launch} {E : Ev} {r : Nat} {g : Nat → Int32} {σ : Sg} (hR : RepM σ g) (hW : Wf σ) {n p u : Nat} (hn : n < 20) (hp : p < sP σ) (hu : u < 2147483648) : Cr l E yX6_understudyFor cX6_understudyFor 6 (some FieldType.int) 2 46 [.ref r, .int (nI n), .int (nI p), .int (nI u)] [(r, .inl (eI E, 255, .inl g))] (some (.int (mI (un σ n p u)))) := by
  have hwP := hW.P
  have hwA := hW.A
  have hwS := hW.S
  have hwC := hW.C hp
  refine ct_of (by decide +kernel) (Nat.le_of_ble_eq_true rfl) (fun ω C RT => ?_)
  show ω [(r, .inl (eI E, 255, .inl g))] [(0, .ref r), (1, .int (nI n)), (2, .int (nI p)), (3, .int (nI u))] [] 0
  refine r_iconst C dX6_understudyFor_0 ki_0 ?_
  refine r_istore C (lv' := [(4, .int (nI 0)), (0, .ref r), (1, .int (nI n)), (2, .int (nI p)), (3, .int (nI u))]) dX6_understudyFor_1 (by decide) rfl ?_
  have loop3_1 : ∀ (dd9 : Nat) (k : Nat), sC σ p - k < dd9 → (k ≤ sC σ p) → (∀ j, j < k → unP σ n p u j = false) → ω [(r, .inl (eI E, 255, .inl g))] [(4, .int (nI k)), (0, .ref r), (1, .int (nI n)), (2, .int (nI p)), (3, .int (nI u))] [] 3 := by
    intro dd9
    induction dd9 with
    | zero => intro k hd; exact absurd hd (Nat.not_lt_zero _)
    | succ dd9 ih2 =>
      intro k hd hk hno
      refine r_iload C (i := 4) 0 dX6_understudyFor_3 rfl ?_
      refine r_aload_n C (i := 0) 1 dX6_understudyFor_5 rfl rfl ?_
      refine r_sipush C dX6_understudyFor_6 ks_145 ?_
      refine r_iconst C dX6_understudyFor_9 ki_5 ?_
      refine r_iload_n C (i := 2) 3 dX6_understudyFor_10 rfl rfl ?_
      refine r_imul (v := nI (5 * p)) C dX6_understudyFor_11 (pk_mul _ _) ?_
      refine r_iadd (v := nI (145 + (5 * p))) C dX6_understudyFor_12 (nI_add _ _) ?_
      refine r_iald (j := 145 + (5 * p)) (v := nI (sC σ p)) C 0 rfl (by omega) (by decide) (hR.C hp) dX6_understudyFor_13 ?_
      refine r_icmp_ge C (c9 := sC σ p ≤ k) 64 dX6_understudyFor_14 (by decide) (c_leNN (by omega) (by omega)) (fun h14_3 => ?_) (fun h14_3 => ?_)
      · refine r_iconst C dX6_understudyFor_64 ki_m1 ?_
        exact RT.1 _ _ _ _ _ dX6_understudyFor_65 rfl rfl (rd_i (congrArg mI (un_no (fun j hj => hno j (by omega))).symm)) rfl
      · have hu2 := hW.U hp (show k < sC σ p by omega)
        refine r_aload_n C (i := 0) 1 dX6_understudyFor_17 rfl rfl ?_
        refine r_sipush C dX6_understudyFor_18 ks_145 ?_
        refine r_iconst C dX6_understudyFor_21 ki_5 ?_
        refine r_iload_n C (i := 2) 3 dX6_understudyFor_22 rfl rfl ?_
        refine r_imul (v := nI (5 * p)) C dX6_understudyFor_23 (pk_mul _ _) ?_
        refine r_iadd (v := nI (145 + (5 * p))) C dX6_understudyFor_24 (nI_add _ _) ?_
        refine r_iconst C dX6_understudyFor_25 ki_1 ?_
        refine r_iadd (v := nI ((145 + (5 * p)) + 1)) C dX6_understudyFor_26 (nI_add _ _) ?_
        refine r_iload C (i := 4) 0 dX6_understudyFor_27 rfl ?_
        refine r_iadd (v := nI (((145 + (5 * p)) + 1) + k)) C dX6_understudyFor_29 (nI_add _ _) ?_
        refine r_iald (j := ((145 + (5 * p)) + 1) + k) (v := nI (sU σ p k)) C 0 rfl (by omega) (by decide) (hR.U hp (by omega)) dX6_understudyFor_30 ?_
        refine r_istore C (lv' := [(5, .int (nI (sU σ p k))), (4, .int (nI k)), (0, .ref r), (1, .int (nI n)), (2, .int (nI p)), (3, .int (nI u))]) dX6_understudyFor_31 (by decide) rfl ?_
        refine r_aload_n C (i := 0) 2 dX6_understudyFor_33 rfl rfl ?_
        refine r_iload_n C (i := 1) 3 dX6_understudyFor_34 rfl rfl ?_
        refine r_iload C (i := 5) 0 dX6_understudyFor_35 rfl ?_
        refine r_iload_n C (i := 3) 5 dX6_understudyFor_37 rfl rfl ?_
        refine r_readS (rest := []) C (c_X6_can (r := r) (g := g) (σ := σ) (n := n) (a := sU σ p k) (u := u) (hR := hR) (hW := hW) (hn := (by omega)) (ha := (by omega)) (hu := (by omega))) lk_X6_can w_5_218 [0] dX6_understudyFor_38 rfl rfl rfl ⟨by decide, by decide⟩ (Nat.le_of_ble_eq_true rfl) (st' := [.int (bP (can σ n u (sU σ p k)))]) rfl ?_
        refine r_if_eq C (y := 0) (c9 := ¬ (can σ n u (sU σ p k))) 58 dX6_understudyFor_41 (by decide) z_eqB (fun h41_4 => ?_) (fun h41_4 => ?_)
        · refine r_iinc C (lv' := [(4, .int (nI (k + 1))), (5, .int (nI (sU σ p k))), (0, .ref r), (1, .int (nI n)), (2, .int (nI p)), (3, .int (nI u))]) (v := nI (k + 1)) 1 dX6_understudyFor_58 rfl (v_inc _) (by decide) rfl ?_
          refine r_goto C 3 dX6_understudyFor_61 (by decide) ?_
          refine r_lv (lv' := [(4, .int (nI (k + 1))), (0, .ref r), (1, .int (nI n)), (2, .int (nI p)), (3, .int (nI u))]) C [0, 2, 3, 4, 5] rfl ?_
          exact ih2 (k + 1) (by omega) (by omega) (lt_step hno (decide_eq_false (fun z => h41_4 z.1)))
        · replace h41_4 : can σ n u (sU σ p k) := Decidable.not_not.mp h41_4
          refine r_aload_n C (i := 0) 2 dX6_understudyFor_44 rfl rfl ?_
          refine r_iload_n C (i := 1) 3 dX6_understudyFor_45 rfl rfl ?_
          refine r_iload_n C (i := 2) 4 dX6_understudyFor_46 rfl rfl ?_
          refine r_iload C (i := 5) 0 dX6_understudyFor_47 rfl ?_
          refine r_readS (rest := []) C (c_X6_isOtherPrincipal (r := r) (g := g) (σ := σ) (n := n) (p := p) (a := sU σ p k) (hR := hR) (hW := hW) (hn := (by omega)) (hp := (by omega)) (ha := (by omega))) lk_X6_isOtherPrincipal w_5_227 [0] dX6_understudyFor_49 rfl rfl rfl ⟨by decide, by decide⟩ (Nat.le_of_ble_eq_true rfl) (st' := [.int (bP (oth σ n p (sU σ p k)))]) rfl ?_
          refine r_if_ne C (y := 0) (c9 := oth σ n p (sU σ p k)) 58 dX6_understudyFor_52 (by decide) z_neB (fun h52_5 => ?_) (fun h52_5 => ?_)
          · refine r_iinc C (lv' := [(4, .int (nI (k + 1))), (5, .int (nI (sU σ p k))), (0, .ref r), (1, .int (nI n)), (2, .int (nI p)), (3, .int (nI u))]) (v := nI (k + 1)) 1 dX6_understudyFor_58 rfl (v_inc _) (by decide) rfl ?_
            refine r_goto C 3 dX6_understudyFor_61 (by decide) ?_
            refine r_lv (lv' := [(4, .int (nI (k + 1))), (0, .ref r), (1, .int (nI n)), (2, .int (nI p)), (3, .int (nI u))]) C [0, 2, 3, 4, 5] rfl ?_
            exact ih2 (k + 1) (by omega) (by omega) (lt_step hno (decide_eq_false (fun z => z.2 h52_5)))
          · refine r_iload C (i := 5) 0 dX6_understudyFor_55 rfl ?_
            exact RT.1 _ _ _ _ _ dX6_understudyFor_57 rfl rfl (rd_i ((mI_s _).symm.trans (congrArg mI (un_yes (by omega) (decide_eq_true ⟨h41_4, by assumption⟩) hno).symm))) rfl
  exact loop3_1 _ 0 (Nat.lt_succ_self _) (by omega) (fun j hj => absurd hj (Nat.not_lt_zero j))
set_option maxRecDepth 100000 in
set_option maxHeartbeats 1000000 in
theorem c_X6_begin {l : Launch} {E : Ev} {r : Nat} {g : Nat → Int32} : Ct l E yX6_begin cX6_begin 2 none 0 0 [.ref r] [(r, .inl (eI E, 255, .inl g))] (fun v9 w9 => ∃ g2 : Nat → Int32, v9 = none ∧ w9 = [(r, .inl (eI E, 255, .inl g2))] ∧ RepM o0 g2) := by
  refine ct_of (by decide +kernel) (Nat.le_of_ble_eq_true rfl) (fun ω C RT => ?_)
  show ω [(r, .inl (eI E, 255, .inl g))] [(0, .ref r)] [] 0
  refine r_iconst C dX6_begin_0 ki_0 ?_
  refine r_istore_n C (lv' := [(1, .int (nI 0)), (0, .ref r)]) dX6_begin_1 rfl (by decide) rfl ?_
  have loop2_1 : ∀ (dd9 : Nat) (i : Nat) (g2 : Nat → Int32), 255 - i < dd9 → (i ≤ 255) → (g2 = castF g 0 i (nI 0)) → ω [(r, .inl (eI E, 255, .inl g2))] [(1, .int (nI i)), (0, .ref r)] [] 2 := by
    intro dd9
    induction dd9 with
    | zero => intro i g2 hd; exact absurd hd (Nat.not_lt_zero _)
    | succ dd9 ih2 =>
      intro i g2 hd hi hf
      refine r_iload_n C (i := 1) 0 dX6_begin_2 rfl rfl ?_
      refine r_sipush C dX6_begin_3 ks_255 ?_
      refine r_icmp_ge C (c9 := 255 ≤ i) 19 dX6_begin_6 (by decide) (c_leNN (by omega) (by omega)) (fun h6_3 => ?_) (fun h6_3 => ?_)
      · refine r_aload_n C (i := 0) 1 dX6_begin_19 rfl rfl ?_
        refine r_iconst C dX6_begin_20 ki_3 ?_
        refine r_bipush C dX6_begin_21 kb_20 ?_
        refine r_iast (j := 3) (ws' := [(r, .inl (eI E, 255, .inl (upd g2 3 (nI 20))))]) C 0 rfl (by omega) (by decide) rfl dX6_begin_23 ?_
        refine r_aload_n C (i := 0) 1 dX6_begin_24 rfl rfl ?_
        refine r_iconst C dX6_begin_25 ki_4 ?_
        refine r_iconst C dX6_begin_26 ki_3 ?_
        refine r_iast (j := 4) (ws' := [(r, .inl (eI E, 255, .inl (upd (upd g2 3 (nI 20)) 4 (nI 3))))]) C 0 rfl (by omega) (by decide) rfl dX6_begin_27 ?_
        exact RT.2.2.1 _ _ _ dX6_begin_28 rfl (⟨_, rfl, rfl, by rw [hf, (by omega : i = 255)]; exact RepM_0 g⟩) rfl
      · refine r_aload_n C (i := 0) 1 dX6_begin_9 rfl rfl ?_
        refine r_iload_n C (i := 1) 0 dX6_begin_10 rfl rfl ?_
        refine r_iconst C dX6_begin_11 ki_0 ?_
        refine r_iast (j := i) (ws' := [(r, .inl (eI E, 255, .inl (upd g2 i (nI 0))))]) C 0 rfl (by omega) (by decide) rfl dX6_begin_12 ?_
        refine r_iinc C (lv' := [(1, .int (nI (i + 1))), (0, .ref r)]) (v := nI (i + 1)) 0 dX6_begin_13 rfl (v_inc _) (by decide) rfl ?_
        refine r_goto C 2 dX6_begin_16 (by decide) ?_
        exact ih2 (i + 1) (upd g2 i (nI 0)) (by omega) (by omega) (by rw [hf]; exact castF_s (by omega))
  exact loop2_1 _ 0 g (Nat.lt_succ_self _) (by omega) (castF_0 g 0 (nI 0))
set_option maxRecDepth 100000 in
set_option maxHeartbeats 1000000 in
theorem c_X6_copyState__255_255 {l : Launch} {E : Ev} {q2 q3 fa ta : Nat} {F F2 : Nat → Int32} (hf : fa + 255 ≤ 255) (ht : ta + 255 ≤ 255) : Ct l E yX6_copyState cX6_copyState 5 none 0 0 [.ref q2, .int (nI fa), .ref q3, .int (nI ta)] [(q2, .inl (eI E, 255, .inl F)), (q3, .inl (eI E, 255, .inl F2))] (fun v9 w9 => v9 = none ∧ w9 = [(q2, .inl (eI E, 255, .inl F)), (q3, .inl (eI E, 255, .inl (va_cpy F F2 fa ta 255)))]) := by
  refine ct_of (by decide +kernel) (Nat.le_of_ble_eq_true rfl) (fun ω C RT => ?_)
  show ω [(q2, .inl (eI E, 255, .inl F)), (q3, .inl (eI E, 255, .inl F2))] [(0, .ref q2), (1, .int (nI fa)), (2, .ref q3), (3, .int (nI ta))] [] 0
  refine r_iconst C dX6_copyState_0 ki_0 ?_
  refine r_istore C (lv' := [(4, .int (nI 0)), (0, .ref q2), (1, .int (nI fa)), (2, .ref q3), (3, .int (nI ta))]) dX6_copyState_1 (by decide) rfl ?_
  have loop3_1 : ∀ (dd9 : Nat) (k : Nat) (G2 : Nat → Int32), 255 - k < dd9 → (k ≤ 255) → (G2 = va_cpy F F2 fa ta k) → ω [(q2, .inl (eI E, 255, .inl F)), (q3, .inl (eI E, 255, .inl G2))] [(4, .int (nI k)), (0, .ref q2), (1, .int (nI fa)), (2, .ref q3), (3, .int (nI ta))] [] 3 := by
    intro dd9
    induction dd9 with
    | zero => intro k G2 hd; exact absurd hd (Nat.not_lt_zero _)
    | succ dd9 ih2 =>
      intro k G2 hd hk hg
      refine r_iload C (i := 4) 0 dX6_copyState_3 rfl ?_
      refine r_sipush C dX6_copyState_5 ks_255 ?_
      refine r_icmp_ge C (c9 := 255 ≤ k) 29 dX6_copyState_8 (by decide) (c_leNN (by omega) (by omega)) (fun h8_3 => ?_) (fun h8_3 => ?_)
      · exact RT.2.2.1 _ _ _ dX6_copyState_29 rfl (⟨rfl, by rw [hg, (by omega : k = 255)]⟩) rfl
      · refine r_aload_n C (i := 2) 3 dX6_copyState_11 rfl rfl ?_
        refine r_iload_n C (i := 3) 4 dX6_copyState_12 rfl rfl ?_
        refine r_iload C (i := 4) 0 dX6_copyState_13 rfl ?_
        refine r_iadd (v := nI (ta + k)) C dX6_copyState_15 (nI_add _ _) ?_
        refine r_aload_n C (i := 0) 1 dX6_copyState_16 rfl rfl ?_
        refine r_iload_n C (i := 1) 2 dX6_copyState_17 rfl rfl ?_
        refine r_iload C (i := 4) 0 dX6_copyState_18 rfl ?_
        refine r_iadd (v := nI (fa + k)) C dX6_copyState_20 (nI_add _ _) ?_
        refine r_iald (j := fa + k) (v := (F (fa + k))) C 0 rfl (by omega) (by decide) rfl dX6_copyState_21 ?_
        refine r_iast (j := ta + k) (ws' := [(q2, .inl (eI E, 255, .inl F)), (q3, .inl (eI E, 255, .inl (upd G2 (ta + k) (F (fa + k)))))]) C 1 rfl (by omega) (by decide) rfl dX6_copyState_22 ?_
        refine r_iinc C (lv' := [(4, .int (nI (k + 1))), (0, .ref q2), (1, .int (nI fa)), (2, .ref q3), (3, .int (nI ta))]) (v := nI (k + 1)) 0 dX6_copyState_23 rfl (v_inc _) (by decide) rfl ?_
        refine r_goto C 3 dX6_copyState_26 (by decide) ?_
        exact ih2 (k + 1) (upd G2 (ta + k) (F (fa + k))) (by omega) (by omega) (by rw [hg]; exact cpy_s)
  exact loop3_1 _ 0 F2 (Nat.lt_succ_self _) (by omega) (cpy_0 _ _ _ _)
set_option maxRecDepth 100000 in
set_option maxHeartbeats 1000000 in
theorem c_X6_copyState__255_3570 {l : Launch} {E : Ev} {q2 q3 fa ta : Nat} {F F2 : Nat → Int32} (hf : fa + 255 ≤ 255) (ht : ta + 255 ≤ 3570) : Ct l E yX6_copyState cX6_copyState 5 none 0 0 [.ref q2, .int (nI fa), .ref q3, .int (nI ta)] [(q2, .inl (eI E, 255, .inl F)), (q3, .inl (eI E, 3570, .inl F2))] (fun v9 w9 => v9 = none ∧ w9 = [(q2, .inl (eI E, 255, .inl F)), (q3, .inl (eI E, 3570, .inl (va_cpy F F2 fa ta 255)))]) := by
  refine ct_of (by decide +kernel) (Nat.le_of_ble_eq_true rfl) (fun ω C RT => ?_)
  show ω [(q2, .inl (eI E, 255, .inl F)), (q3, .inl (eI E, 3570, .inl F2))] [(0, .ref q2), (1, .int (nI fa)), (2, .ref q3), (3, .int (nI ta))] [] 0
  refine r_iconst C dX6_copyState_0 ki_0 ?_
  refine r_istore C (lv' := [(4, .int (nI 0)), (0, .ref q2), (1, .int (nI fa)), (2, .ref q3), (3, .int (nI ta))]) dX6_copyState_1 (by decide) rfl ?_
  have loop3_1 : ∀ (dd9 : Nat) (k : Nat) (G2 : Nat → Int32), 255 - k < dd9 → (k ≤ 255) → (G2 = va_cpy F F2 fa ta k) → ω [(q2, .inl (eI E, 255, .inl F)), (q3, .inl (eI E, 3570, .inl G2))] [(4, .int (nI k)), (0, .ref q2), (1, .int (nI fa)), (2, .ref q3), (3, .int (nI ta))] [] 3 := by
    intro dd9
    induction dd9 with
    | zero => intro k G2 hd; exact absurd hd (Nat.not_lt_zero _)
    | succ dd9 ih2 =>
      intro k G2 hd hk hg
      refine r_iload C (i := 4) 0 dX6_copyState_3 rfl ?_
      refine r_sipush C dX6_copyState_5 ks_255 ?_
      refine r_icmp_ge C (c9 := 255 ≤ k) 29 dX6_copyState_8 (by decide) (c_leNN (by omega) (by omega)) (fun h8_3 => ?_) (fun h8_3 => ?_)
      · exact RT.2.2.1 _ _ _ dX6_copyState_29 rfl (⟨rfl, by rw [hg, (by omega : k = 255)]⟩) rfl
      · refine r_aload_n C (i := 2) 3 dX6_copyState_11 rfl rfl ?_
        refine r_iload_n C (i := 3) 4 dX6_copyState_12 rfl rfl ?_
        refine r_iload C (i := 4) 0 dX6_copyState_13 rfl ?_
        refine r_iadd (v := nI (ta + k)) C dX6_copyState_15 (nI_add _ _) ?_
        refine r_aload_n C (i := 0) 1 dX6_copyState_16 rfl rfl ?_
        refine r_iload_n C (i := 1) 2 dX6_copyState_17 rfl rfl ?_
        refine r_iload C (i := 4) 0 dX6_copyState_18 rfl ?_
        refine r_iadd (v := nI (fa + k)) C dX6_copyState_20 (nI_add _ _) ?_
        refine r_iald (j := fa + k) (v := (F (fa + k))) C 0 rfl (by omega) (by decide) rfl dX6_copyState_21 ?_
        refine r_iast (j := ta + k) (ws' := [(q2, .inl (eI E, 255, .inl F)), (q3, .inl (eI E, 3570, .inl (upd G2 (ta + k) (F (fa + k)))))]) C 1 rfl (by omega) (by decide) rfl dX6_copyState_22 ?_
        refine r_iinc C (lv' := [(4, .int (nI (k + 1))), (0, .ref q2), (1, .int (nI fa)), (2, .ref q3), (3, .int (nI ta))]) (v := nI (k + 1)) 0 dX6_copyState_23 rfl (v_inc _) (by decide) rfl ?_
        refine r_goto C 3 dX6_copyState_26 (by decide) ?_
        exact ih2 (k + 1) (upd G2 (ta + k) (F (fa + k))) (by omega) (by omega) (by rw [hg]; exact cpy_s)
  exact loop3_1 _ 0 F2 (Nat.lt_succ_self _) (by omega) (cpy_0 _ _ _ _)
set_option maxRecDepth 100000 in
set_option maxHeartbeats 1000000 in
theorem c_X6_copyState__3570_255 {l : Launch} {E : Ev} {q2 q3 fa ta : Nat} {F F2 : Nat → Int32} (hf : fa + 255 ≤ 3570) (ht : ta + 255 ≤ 255) : Ct l E yX6_copyState cX6_copyState 5 none 0 0 [.ref q2, .int (nI fa), .ref q3, .int (nI ta)] [(q2, .inl (eI E, 3570, .inl F)), (q3, .inl (eI E, 255, .inl F2))] (fun v9 w9 => v9 = none ∧ w9 = [(q2, .inl (eI E, 3570, .inl F)), (q3, .inl (eI E, 255, .inl (va_cpy F F2 fa ta 255)))]) := by
  refine ct_of (by decide +kernel) (Nat.le_of_ble_eq_true rfl) (fun ω C RT => ?_)
  show ω [(q2, .inl (eI E, 3570, .inl F)), (q3, .inl (eI E, 255, .inl F2))] [(0, .ref q2), (1, .int (nI fa)), (2, .ref q3), (3, .int (nI ta))] [] 0
  refine r_iconst C dX6_copyState_0 ki_0 ?_
  refine r_istore C (lv' := [(4, .int (nI 0)), (0, .ref q2), (1, .int (nI fa)), (2, .ref q3), (3, .int (nI ta))]) dX6_copyState_1 (by decide) rfl ?_
  have loop3_1 : ∀ (dd9 : Nat) (k : Nat) (G2 : Nat → Int32), 255 - k < dd9 → (k ≤ 255) → (G2 = va_cpy F F2 fa ta k) → ω [(q2, .inl (eI E, 3570, .inl F)), (q3, .inl (eI E, 255, .inl G2))] [(4, .int (nI k)), (0, .ref q2), (1, .int (nI fa)), (2, .ref q3), (3, .int (nI ta))] [] 3 := by
    intro dd9
    induction dd9 with
    | zero => intro k G2 hd; exact absurd hd (Nat.not_lt_zero _)
    | succ dd9 ih2 =>
      intro k G2 hd hk hg
      refine r_iload C (i := 4) 0 dX6_copyState_3 rfl ?_
      refine r_sipush C dX6_copyState_5 ks_255 ?_
      refine r_icmp_ge C (c9 := 255 ≤ k) 29 dX6_copyState_8 (by decide) (c_leNN (by omega) (by omega)) (fun h8_3 => ?_) (fun h8_3 => ?_)
      · exact RT.2.2.1 _ _ _ dX6_copyState_29 rfl (⟨rfl, by rw [hg, (by omega : k = 255)]⟩) rfl
      · refine r_aload_n C (i := 2) 3 dX6_copyState_11 rfl rfl ?_
        refine r_iload_n C (i := 3) 4 dX6_copyState_12 rfl rfl ?_
        refine r_iload C (i := 4) 0 dX6_copyState_13 rfl ?_
        refine r_iadd (v := nI (ta + k)) C dX6_copyState_15 (nI_add _ _) ?_
        refine r_aload_n C (i := 0) 1 dX6_copyState_16 rfl rfl ?_
        refine r_iload_n C (i := 1) 2 dX6_copyState_17 rfl rfl ?_
        refine r_iload C (i := 4) 0 dX6_copyState_18 rfl ?_
        refine r_iadd (v := nI (fa + k)) C dX6_copyState_20 (nI_add _ _) ?_
        refine r_iald (j := fa + k) (v := (F (fa + k))) C 0 rfl (by omega) (by decide) rfl dX6_copyState_21 ?_
        refine r_iast (j := ta + k) (ws' := [(q2, .inl (eI E, 3570, .inl F)), (q3, .inl (eI E, 255, .inl (upd G2 (ta + k) (F (fa + k)))))]) C 1 rfl (by omega) (by decide) rfl dX6_copyState_22 ?_
        refine r_iinc C (lv' := [(4, .int (nI (k + 1))), (0, .ref q2), (1, .int (nI fa)), (2, .ref q3), (3, .int (nI ta))]) (v := nI (k + 1)) 0 dX6_copyState_23 rfl (v_inc _) (by decide) rfl ?_
        refine r_goto C 3 dX6_copyState_26 (by decide) ?_
        exact ih2 (k + 1) (upd G2 (ta + k) (F (fa + k))) (by omega) (by omega) (by rw [hg]; exact cpy_s)
  exact loop3_1 _ 0 F2 (Nat.lt_succ_self _) (by omega) (cpy_0 _ _ _ _)
set_option maxRecDepth 100000 in
set_option maxHeartbeats 1000000 in
theorem c_X6_copyState__255_510 {l : Launch} {E : Ev} {q2 q3 fa ta : Nat} {F F2 : Nat → Int32} (hf : fa + 255 ≤ 255) (ht : ta + 255 ≤ 510) : Ct l E yX6_copyState cX6_copyState 5 none 0 0 [.ref q2, .int (nI fa), .ref q3, .int (nI ta)] [(q2, .inl (eI E, 255, .inl F)), (q3, .inl (eI E, 510, .inl F2))] (fun v9 w9 => v9 = none ∧ w9 = [(q2, .inl (eI E, 255, .inl F)), (q3, .inl (eI E, 510, .inl (va_cpy F F2 fa ta 255)))]) := by
  refine ct_of (by decide +kernel) (Nat.le_of_ble_eq_true rfl) (fun ω C RT => ?_)
  show ω [(q2, .inl (eI E, 255, .inl F)), (q3, .inl (eI E, 510, .inl F2))] [(0, .ref q2), (1, .int (nI fa)), (2, .ref q3), (3, .int (nI ta))] [] 0
  refine r_iconst C dX6_copyState_0 ki_0 ?_
  refine r_istore C (lv' := [(4, .int (nI 0)), (0, .ref q2), (1, .int (nI fa)), (2, .ref q3), (3, .int (nI ta))]) dX6_copyState_1 (by decide) rfl ?_
  have loop3_1 : ∀ (dd9 : Nat) (k : Nat) (G2 : Nat → Int32), 255 - k < dd9 → (k ≤ 255) → (G2 = va_cpy F F2 fa ta k) → ω [(q2, .inl (eI E, 255, .inl F)), (q3, .inl (eI E, 510, .inl G2))] [(4, .int (nI k)), (0, .ref q2), (1, .int (nI fa)), (2, .ref q3), (3, .int (nI ta))] [] 3 := by
    intro dd9
    induction dd9 with
    | zero => intro k G2 hd; exact absurd hd (Nat.not_lt_zero _)
    | succ dd9 ih2 =>
      intro k G2 hd hk hg
      refine r_iload C (i := 4) 0 dX6_copyState_3 rfl ?_
      refine r_sipush C dX6_copyState_5 ks_255 ?_
      refine r_icmp_ge C (c9 := 255 ≤ k) 29 dX6_copyState_8 (by decide) (c_leNN (by omega) (by omega)) (fun h8_3 => ?_) (fun h8_3 => ?_)
      · exact RT.2.2.1 _ _ _ dX6_copyState_29 rfl (⟨rfl, by rw [hg, (by omega : k = 255)]⟩) rfl
      · refine r_aload_n C (i := 2) 3 dX6_copyState_11 rfl rfl ?_
        refine r_iload_n C (i := 3) 4 dX6_copyState_12 rfl rfl ?_
        refine r_iload C (i := 4) 0 dX6_copyState_13 rfl ?_
        refine r_iadd (v := nI (ta + k)) C dX6_copyState_15 (nI_add _ _) ?_
        refine r_aload_n C (i := 0) 1 dX6_copyState_16 rfl rfl ?_
        refine r_iload_n C (i := 1) 2 dX6_copyState_17 rfl rfl ?_
        refine r_iload C (i := 4) 0 dX6_copyState_18 rfl ?_
        refine r_iadd (v := nI (fa + k)) C dX6_copyState_20 (nI_add _ _) ?_
        refine r_iald (j := fa + k) (v := (F (fa + k))) C 0 rfl (by omega) (by decide) rfl dX6_copyState_21 ?_
        refine r_iast (j := ta + k) (ws' := [(q2, .inl (eI E, 255, .inl F)), (q3, .inl (eI E, 510, .inl (upd G2 (ta + k) (F (fa + k)))))]) C 1 rfl (by omega) (by decide) rfl dX6_copyState_22 ?_
        refine r_iinc C (lv' := [(4, .int (nI (k + 1))), (0, .ref q2), (1, .int (nI fa)), (2, .ref q3), (3, .int (nI ta))]) (v := nI (k + 1)) 0 dX6_copyState_23 rfl (v_inc _) (by decide) rfl ?_
        refine r_goto C 3 dX6_copyState_26 (by decide) ?_
        exact ih2 (k + 1) (upd G2 (ta + k) (F (fa + k))) (by omega) (by omega) (by rw [hg]; exact cpy_s)
  exact loop3_1 _ 0 F2 (Nat.lt_succ_self _) (by omega) (cpy_0 _ _ _ _)
set_option maxRecDepth 100000 in
set_option maxHeartbeats 1000000 in
theorem c_X6_copyState__510_255 {l : Launch} {E : Ev} {q2 q3 fa ta : Nat} {F F2 : Nat → Int32} (hf : fa + 255 ≤ 510) (ht : ta + 255 ≤ 255) : Ct l E yX6_copyState cX6_copyState 5 none 0 0 [.ref q2, .int (nI fa), .ref q3, .int (nI ta)] [(q2, .inl (eI E, 510, .inl F)), (q3, .inl (eI E, 255, .inl F2))] (fun v9 w9 => v9 = none ∧ w9 = [(q2, .inl (eI E, 510, .inl F)), (q3, .inl (eI E, 255, .inl (va_cpy F F2 fa ta 255)))]) := by
  refine ct_of (by decide +kernel) (Nat.le_of_ble_eq_true rfl) (fun ω C RT => ?_)
  show ω [(q2, .inl (eI E, 510, .inl F)), (q3, .inl (eI E, 255, .inl F2))] [(0, .ref q2), (1, .int (nI fa)), (2, .ref q3), (3, .int (nI ta))] [] 0
  refine r_iconst C dX6_copyState_0 ki_0 ?_
  refine r_istore C (lv' := [(4, .int (nI 0)), (0, .ref q2), (1, .int (nI fa)), (2, .ref q3), (3, .int (nI ta))]) dX6_copyState_1 (by decide) rfl ?_
  have loop3_1 : ∀ (dd9 : Nat) (k : Nat) (G2 : Nat → Int32), 255 - k < dd9 → (k ≤ 255) → (G2 = va_cpy F F2 fa ta k) → ω [(q2, .inl (eI E, 510, .inl F)), (q3, .inl (eI E, 255, .inl G2))] [(4, .int (nI k)), (0, .ref q2), (1, .int (nI fa)), (2, .ref q3), (3, .int (nI ta))] [] 3 := by
    intro dd9
    induction dd9 with
    | zero => intro k G2 hd; exact absurd hd (Nat.not_lt_zero _)
    | succ dd9 ih2 =>
      intro k G2 hd hk hg
      refine r_iload C (i := 4) 0 dX6_copyState_3 rfl ?_
      refine r_sipush C dX6_copyState_5 ks_255 ?_
      refine r_icmp_ge C (c9 := 255 ≤ k) 29 dX6_copyState_8 (by decide) (c_leNN (by omega) (by omega)) (fun h8_3 => ?_) (fun h8_3 => ?_)
      · exact RT.2.2.1 _ _ _ dX6_copyState_29 rfl (⟨rfl, by rw [hg, (by omega : k = 255)]⟩) rfl
      · refine r_aload_n C (i := 2) 3 dX6_copyState_11 rfl rfl ?_
        refine r_iload_n C (i := 3) 4 dX6_copyState_12 rfl rfl ?_
        refine r_iload C (i := 4) 0 dX6_copyState_13 rfl ?_
        refine r_iadd (v := nI (ta + k)) C dX6_copyState_15 (nI_add _ _) ?_
        refine r_aload_n C (i := 0) 1 dX6_copyState_16 rfl rfl ?_
        refine r_iload_n C (i := 1) 2 dX6_copyState_17 rfl rfl ?_
        refine r_iload C (i := 4) 0 dX6_copyState_18 rfl ?_
        refine r_iadd (v := nI (fa + k)) C dX6_copyState_20 (nI_add _ _) ?_
        refine r_iald (j := fa + k) (v := (F (fa + k))) C 0 rfl (by omega) (by decide) rfl dX6_copyState_21 ?_
        refine r_iast (j := ta + k) (ws' := [(q2, .inl (eI E, 510, .inl F)), (q3, .inl (eI E, 255, .inl (upd G2 (ta + k) (F (fa + k)))))]) C 1 rfl (by omega) (by decide) rfl dX6_copyState_22 ?_
        refine r_iinc C (lv' := [(4, .int (nI (k + 1))), (0, .ref q2), (1, .int (nI fa)), (2, .ref q3), (3, .int (nI ta))]) (v := nI (k + 1)) 0 dX6_copyState_23 rfl (v_inc _) (by decide) rfl ?_
        refine r_goto C 3 dX6_copyState_26 (by decide) ?_
        exact ih2 (k + 1) (upd G2 (ta + k) (F (fa + k))) (by omega) (by omega) (by rw [hg]; exact cpy_s)
  exact loop3_1 _ 0 F2 (Nat.lt_succ_self _) (by omega) (cpy_0 _ _ _ _)
