theorem svL {v v' : Int64} (h : v = v') : some (Value.long v) = some (Value.long v') := by rw [h]
theorem lM1 (a : Nat) (h : a < 2147483648) : (mI a).toInt64 + lN 1 = lN a := by
  apply Int64.toInt.inj
  rw [Int64.toInt_add, tl32, mI_toInt h, lN_toInt (by decide), lN_toInt h, show ((a : Int) - 1 + ((1 : Nat) : Int)) = (a : Int) from by omega]
  apply Int.bmod_eq_of_le <;> omega
theorem RepM_w {σ : Sg} {g : Nat → Int32} (hR : RepM σ g) {w : Nat} (hw : w < 3) : g w = nI (if w = 0 then sP σ else if w = 1 then sA σ else sS σ) := by
  rcases (by omega : w = 0 ∨ w = 1 ∨ w = 2) with e | e | e <;> subst e
  · exact hR.1
  · exact hR.2.1
  · exact hR.2.2.1
def nwB (σ : Sg) (n i : Nat) : Nat := if blm σ n ≠ 0 ∧ ∀ j, j < i → blm σ j ≠ blm σ n then 1 else 0
theorem nwB_0 (σ : Sg) (n : Nat) : nwB σ n 0 = if blm σ n = 0 then 0 else 1 := by
  unfold nwB
  by_cases e : blm σ n = 0
  · rw [if_neg (fun z => z.1 e), if_pos e]
  · rw [if_pos ⟨e, fun j hj => absurd hj (Nat.not_lt_zero j)⟩, if_neg e]
theorem nwB_n {σ : Sg} {n i : Nat} (h : nwB σ n i = 0) : nwB σ n (i + 1) = 0 := by
  unfold nwB at h ⊢
  rw [if_neg]
  rintro ⟨h1, h2⟩
  rw [if_pos ⟨h1, fun j hj => h2 j (by omega)⟩] at h
  cases h
theorem nwB_e {σ : Sg} {n i : Nat} (h : blm σ i = blm σ n) : nwB σ n (i + 1) = 0 := by
  unfold nwB
  exact if_neg (fun z => z.2 i (by omega) h)
theorem nwB_y {σ : Sg} {n i : Nat} (h : nwB σ n i ≠ 0) (h2 : blm σ i ≠ blm σ n) : nwB σ n (i + 1) = 1 := by
  unfold nwB at h ⊢
  by_cases c : blm σ n ≠ 0 ∧ ∀ j, j < i → blm σ j ≠ blm σ n
  · rw [if_pos ⟨c.1, lt_step c.2 h2⟩]
  · rw [if_neg c] at h; exact absurd rfl h
theorem unlN_s (σ : Sg) (n : Nat) : unlN σ (n + 1) = unlN σ n + nwB σ n n := rfl
def aAbout (σ : Sg) (w : Nat) : Int32 := if w < 3 then nI (if w = 0 then sP σ else if w = 1 then sA σ else sS σ) else if w = 3 then nI (dkS σ 20) else if w = 4 then nI (tkS σ 20) else if w = 5 then nI (unlN σ 20) else nI (usN σ (sS σ))
def aPlayed (σ : Sg) (n p : Nat) : Int32 := if dk σ n = 1 then mI 0 else mI (T σ n p)
def slC9 (σ : Sg) (n p : Nat) : Nat → Nat
  | 0 => 0
  | k + 1 => slC9 σ n p k + if sL σ k 0 = n ∧ sL σ k 1 = p then 1 else 0
theorem slC9_le (σ : Sg) (n p : Nat) : ∀ k, slC9 σ n p k ≤ k
  | 0 => Nat.le_refl 0
  | k + 1 => by have := slC9_le σ n p k; rw [slC9]; split <;> omega
def aBill (σ : Sg) (n p w : Nat) : Int32 := if w = 0 then mI (sR σ p n) else if w = 1 then mI (T σ n p) else if w = 2 then nI (Wy σ n p) else nI (slC9 σ n p (sS σ))
def aNight (σ : Sg) (n w : Nat) : Int32 := if w = 0 then nI (dk σ n) else if w = 1 then nI (tak σ n) else if w = 2 then nI (bm (fun a => sI σ a n) (sA σ)) else if w = 3 then nI (plr σ n) else nI (otk σ n)
def aActor (σ : Sg) (a w : Nat) : Int32 := if w = 0 then nI (sF σ a) else if w = 1 then nI (pcN σ a 20) else if w = 2 then mI (pfN σ a 20) else if w = 3 then mI (plN σ a 20) else if w = 4 then nI (paN σ a 20) else nI (cntI σ a 20)
def aRank (σ : Sg) (p k : Nat) : Int32 := if k < sC σ p then nI (sU σ p k) else mI 0
def aFound (σ : Sg) (k w : Nat) : Int32 := if w < 4 then nI (sL σ k w) else nI (if usd σ k then 1 else 0)
set_option maxRecDepth 100000 in
set_option maxHeartbeats 1000000 in
theorem c_X6_billOf {l : Launch} {E : Ev} {hM rf x1 sz x3 x4 x5 ac x7 x8 x9 x10 x11 sp ou : Nat} {t1 t2 t3 : Nat → Int32} {r : Nat} {g : Nat → Int32} {σ : Sg} (hR : RepM σ g) (hW : Wf σ) {n : Nat} (hn : n < 20) : Ct l E yX6_billOf cX6_billOf 6 (some FieldType.long) 4 99 [.ref hM, .ref r, .int (nI n)] [(hM, .inr (6, [.int (nI rf), .ref x1, .int (nI sz), .ref x3, .ref x4, .ref x5, .int (nI ac), .ref x7, .ref x8, .ref x9, .ref x10, .ref x11, .int (nI sp), .int (nI ou)])), (x9, .inl (eI E, 6, .inl t1)), (x10, .inl (eI E, 6, .inl t2)), (x11, .inl (eI E, 6, .inl t3)), (r, .inl (eI E, 255, .inl g))] (fun v9 w9 => ∃ ta tb tc : Nat → Int32, v9 = some (.long (blL σ n)) ∧ w9 = [(hM, .inr (6, [.int (nI rf), .ref x1, .int (nI sz), .ref x3, .ref x4, .ref x5, .int (nI ac), .ref x7, .ref x8, .ref x9, .ref x10, .ref x11, .int (nI sp), .int (nI ou)])), (x9, .inl (eI E, 6, .inl ta)), (x10, .inl (eI E, 6, .inl tb)), (x11, .inl (eI E, 6, .inl tc)), (r, .inl (eI E, 255, .inl g))]) := by
  have hwP := hW.P
  have hwA := hW.A
  have hwS := hW.S
  refine ct_of (by decide +kernel) (Nat.le_of_ble_eq_true rfl) (fun ω C RT => ?_)
  show ω [(hM, .inr (6, [.int (nI rf), .ref x1, .int (nI sz), .ref x3, .ref x4, .ref x5, .int (nI ac), .ref x7, .ref x8, .ref x9, .ref x10, .ref x11, .int (nI sp), .int (nI ou)])), (x9, .inl (eI E, 6, .inl t1)), (x10, .inl (eI E, 6, .inl t2)), (x11, .inl (eI E, 6, .inl t3)), (r, .inl (eI E, 255, .inl g))] [(0, .ref hM), (1, .ref r), (2, .int (nI n))] [] 0
  refine r_aload_n C (i := 0) 0 dX6_billOf_0 rfl rfl ?_
  refine r_aload_n C (i := 1) 1 dX6_billOf_1 rfl rfl ?_
  refine r_iload_n C (i := 2) 2 dX6_billOf_2 rfl rfl ?_
  refine r_callV (rest := []) C (c_X6_goThrough (hM := hM) (rf := rf) (x1 := x1) (sz := sz) (x3 := x3) (x4 := x4) (x5 := x5) (ac := ac) (x7 := x7) (x8 := x8) (x9 := x9) (x10 := x10) (x11 := x11) (sp := sp) (ou := ou) (t1 := t1) (t2 := t2) (t3 := t3) (r := r) (g := g) (σ := σ) (n := n) (hR := hR) (hW := hW) (hn := (by omega))) lk_X6_goThrough w_5_211 [0, 1, 2, 3, 4] rfl dX6_billOf_3 rfl rfl rfl rfl ⟨by decide, by decide⟩ (Nat.le_of_ble_eq_true rfl) ?_
  rintro _ _ ⟨ta_1, tb_2, tc_3, rfl, rfl, hEv_4⟩
  show ω [(hM, .inr (6, [.int (nI rf), .ref x1, .int (nI sz), .ref x3, .ref x4, .ref x5, .int (nI ac), .ref x7, .ref x8, .ref x9, .ref x10, .ref x11, .int (nI sp), .int (nI ou)])), (x9, .inl (eI E, 6, .inl ta_1)), (x10, .inl (eI E, 6, .inl tb_2)), (x11, .inl (eI E, 6, .inl tc_3)), (r, .inl (eI E, 255, .inl g))] [(0, .ref hM), (1, .ref r), (2, .int (nI n))] [.int (bP (dk σ n = 1))] 6
  refine r_if_eq C (y := 0) (c9 := ¬ (dk σ n = 1)) 13 dX6_billOf_6 (by decide) z_eqB (fun h6_5 => ?_) (fun h6_5 => ?_)
  · have hd0 : dk σ n = 0 := by have := dk_le σ n; omega
    have hTp := (dk_iff.mp hd0).2
    refine r_lconst (v := lN 0) C dX6_billOf_13 (by decide +kernel) ?_
    refine r_lstore_n C (lv' := [(3, .long (lN 0)), (0, .ref hM), (1, .ref r), (2, .int (nI n))]) dX6_billOf_14 rfl (by decide) rfl ?_
    refine r_iconst C dX6_billOf_15 ki_0 ?_
    refine r_istore C (lv' := [(5, .int (nI 0)), (3, .long (lN 0)), (0, .ref hM), (1, .ref r), (2, .int (nI n))]) dX6_billOf_16 (by decide) rfl ?_
    have loop18_6 : ∀ (dd9 : Nat) (p : Nat) (v : Nat), sP σ - p < dd9 → (p ≤ sP σ) → (v = biN σ n p) → ω [(hM, .inr (6, [.int (nI rf), .ref x1, .int (nI sz), .ref x3, .ref x4, .ref x5, .int (nI ac), .ref x7, .ref x8, .ref x9, .ref x10, .ref x11, .int (nI sp), .int (nI ou)])), (x9, .inl (eI E, 6, .inl ta_1)), (x10, .inl (eI E, 6, .inl tb_2)), (x11, .inl (eI E, 6, .inl tc_3)), (r, .inl (eI E, 255, .inl g))] [(5, .int (nI p)), (3, .long (lN v)), (0, .ref hM), (1, .ref r), (2, .int (nI n))] [] 18 := by
      intro dd9
      induction dd9 with
      | zero => intro p v hd; exact absurd hd (Nat.not_lt_zero _)
      | succ dd9 ih7 =>
        intro p v hd hp hv
        have hbl := biN_lt hW hn hp
        have h10 : 10 ^ p ≤ 10 ^ 6 := Nat.pow_le_pow_right (by decide) (by omega)
        refine r_iload C (i := 5) 0 dX6_billOf_18 rfl ?_
        refine r_aload_n C (i := 1) 3 dX6_billOf_20 rfl rfl ?_
        refine r_iconst C dX6_billOf_21 ki_0 ?_
        refine r_iald (j := 0) (v := nI (sP σ)) C 4 rfl (by omega) (by decide) hR.P dX6_billOf_22 ?_
        refine r_icmp_ge C (c9 := sP σ ≤ p) 47 dX6_billOf_23 (by decide) (c_leNN (by omega) (by omega)) (fun h23_8 => ?_) (fun h23_8 => ?_)
        · refine r_lload_n C (i := 3) 1 dX6_billOf_47 rfl rfl ?_
          exact RT.2.1 _ _ _ _ dX6_billOf_48 rfl (⟨_, _, _, svL (by rw [blL, if_pos hd0, hv, (by omega : p = sP σ)]), rfl⟩) rfl
        · have hT0 := hTp p (by omega)
          have hTl := T_le hW (show p < sP σ by omega) hn
          refine r_ldc2 (v := lN 10) C dX6_billOf_26 w_6_11 ?_
          refine r_lload_n C (i := 3) 1 dX6_billOf_29 rfl rfl ?_
          refine r_lmul (v := lN (10 * v)) C dX6_billOf_30 (lN_mul _ _) ?_
          refine r_aload_n C (i := 0) 2 dX6_billOf_31 rfl rfl ?_
          refine r_get C 0 9 uX6 rfl rfl (by decide) w_5_70 rfl dX6_billOf_32 ?_
          refine r_iload C (i := 5) 0 dX6_billOf_35 rfl ?_
          refine r_iald (j := p) (v := nI (T σ n p - 1)) C 1 rfl (by omega) (by decide) ((hEv_4 p (by omega)).1.trans (by rw [show T σ n p = T σ n p - 1 + 1 from by omega, mI_s, Nat.add_sub_cancel])) dX6_billOf_37 ?_
          refine r_i2l (v := lN (T σ n p - 1)) C dX6_billOf_38 (v_i2l (by omega)) ?_
          refine r_ladd (v := lN ((10 * v) + (T σ n p - 1))) C dX6_billOf_39 (lN_add _ _) ?_
          refine r_lstore_n C (lv' := [(3, .long (lN ((10 * v) + (T σ n p - 1)))), (5, .int (nI p)), (0, .ref hM), (1, .ref r), (2, .int (nI n))]) dX6_billOf_40 rfl (by decide) rfl ?_
          refine r_iinc C (lv' := [(5, .int (nI (p + 1))), (3, .long (lN ((10 * v) + (T σ n p - 1)))), (0, .ref hM), (1, .ref r), (2, .int (nI n))]) (v := nI (p + 1)) 1 dX6_billOf_41 rfl (v_inc _) (by decide) rfl ?_
          refine r_goto C 18 dX6_billOf_44 (by decide) ?_
          exact ih7 (p + 1) ((10 * v) + (T σ n p - 1)) (by omega) (by omega) (by rw [biN, hv, Nat.mul_comm])
    exact loop18_6 _ 0 0 (Nat.lt_succ_self _) (by omega) rfl
  · replace h6_5 : dk σ n = 1 := Decidable.not_not.mp h6_5
    refine r_ldc2 (v := (-1)) C dX6_billOf_9 w_6_10 ?_
    exact RT.2.1 _ _ _ _ dX6_billOf_12 rfl (⟨_, _, _, svL (by rw [blL, if_neg (by omega)]), rfl⟩) rfl
set_option maxRecDepth 100000 in
set_option maxHeartbeats 1000000 in
theorem c_X6_unlike {l : Launch} {E : Ev} {hM rf x1 sz x3 x4 x5 ac x7 x8 x9 x10 x11 sp ou : Nat} {t1 t2 t3 : Nat → Int32} {g : Nat → Int32} {σ : Sg} (hR : RepM σ g) (hW : Wf σ) : Ct l E yX6_unlike cX6_unlike 7 (some FieldType.int) 5 124 [.ref hM] [(hM, .inr (6, [.int (nI rf), .ref x1, .int (nI sz), .ref x3, .ref x4, .ref x5, .int (nI ac), .ref x7, .ref x8, .ref x9, .ref x10, .ref x11, .int (nI sp), .int (nI ou)])), (x9, .inl (eI E, 6, .inl t1)), (x10, .inl (eI E, 6, .inl t2)), (x11, .inl (eI E, 6, .inl t3)), (x3, .inl (eI E, 255, .inl g))] (fun v9 w9 => ∃ ta tb tc : Nat → Int32, v9 = some (.int (nI (unlN σ 20))) ∧ w9 = [(hM, .inr (6, [.int (nI rf), .ref x1, .int (nI sz), .ref x3, .ref x4, .ref x5, .int (nI ac), .ref x7, .ref x8, .ref x9, .ref x10, .ref x11, .int (nI sp), .int (nI ou)])), (x9, .inl (eI E, 6, .inl ta)), (x10, .inl (eI E, 6, .inl tb)), (x11, .inl (eI E, 6, .inl tc)), (x3, .inl (eI E, 255, .inl g))]) := by
  have hwP := hW.P
  have hwA := hW.A
  have hwS := hW.S
  refine ct_of (by decide +kernel) (Nat.le_of_ble_eq_true rfl) (fun ω C RT => ?_)
  show ω [(hM, .inr (6, [.int (nI rf), .ref x1, .int (nI sz), .ref x3, .ref x4, .ref x5, .int (nI ac), .ref x7, .ref x8, .ref x9, .ref x10, .ref x11, .int (nI sp), .int (nI ou)])), (x9, .inl (eI E, 6, .inl t1)), (x10, .inl (eI E, 6, .inl t2)), (x11, .inl (eI E, 6, .inl t3)), (x3, .inl (eI E, 255, .inl g))] [(0, .ref hM)] [] 0
  refine r_iconst C dX6_unlike_0 ki_0 ?_
  refine r_istore_n C (lv' := [(1, .int (nI 0)), (0, .ref hM)]) dX6_unlike_1 rfl (by decide) rfl ?_
  refine r_iconst C dX6_unlike_2 ki_0 ?_
  refine r_istore_n C (lv' := [(2, .int (nI 0)), (1, .int (nI 0)), (0, .ref hM)]) dX6_unlike_3 rfl (by decide) rfl ?_
  have loop4_1 : ∀ (dd9 : Nat) (k : Nat) (m : Nat) (s1 : Nat → Int32) (s2 : Nat → Int32) (s3 : Nat → Int32), 20 - k < dd9 → (k ≤ 20) → (m = unlN σ k) → ω [(hM, .inr (6, [.int (nI rf), .ref x1, .int (nI sz), .ref x3, .ref x4, .ref x5, .int (nI ac), .ref x7, .ref x8, .ref x9, .ref x10, .ref x11, .int (nI sp), .int (nI ou)])), (x9, .inl (eI E, 6, .inl s1)), (x10, .inl (eI E, 6, .inl s2)), (x11, .inl (eI E, 6, .inl s3)), (x3, .inl (eI E, 255, .inl g))] [(2, .int (nI k)), (1, .int (nI m)), (0, .ref hM)] [] 4 := by
    intro dd9
    induction dd9 with
    | zero => intro k m s1 s2 s3 hd; exact absurd hd (Nat.not_lt_zero _)
    | succ dd9 ih2 =>
      intro k m s1 s2 s3 hd hk hm
      have hml := unlN_le σ k
      refine r_iload_n C (i := 2) 0 dX6_unlike_4 rfl rfl ?_
      refine r_bipush C dX6_unlike_5 kb_20 ?_
      refine r_icmp_ge C (c9 := 20 ≤ k) 94 dX6_unlike_7 (by decide) (c_leNN (by omega) (by omega)) (fun h7_3 => ?_) (fun h7_3 => ?_)
      · refine r_iload_n C (i := 1) 1 dX6_unlike_94 rfl rfl ?_
        exact RT.1 _ _ _ _ _ dX6_unlike_95 rfl rfl (⟨_, _, _, sv (congrArg nI (by rw [hm, (by omega : k = 20)])), rfl⟩) rfl
      · refine r_aload_n C (i := 0) 2 dX6_unlike_10 rfl rfl ?_
        refine r_aload_n C (i := 0) 2 dX6_unlike_11 rfl rfl ?_
        refine r_get C 0 3 uX6 rfl rfl (by decide) w_5_64 rfl dX6_unlike_12 ?_
        refine r_iload_n C (i := 2) 0 dX6_unlike_15 rfl rfl ?_
        refine r_callV (rest := []) C (c_X6_billOf (hM := hM) (rf := rf) (x1 := x1) (sz := sz) (x3 := x3) (x4 := x4) (x5 := x5) (ac := ac) (x7 := x7) (x8 := x8) (x9 := x9) (x10 := x10) (x11 := x11) (sp := sp) (ou := ou) (t1 := s1) (t2 := s2) (t3 := s3) (r := x3) (g := g) (σ := σ) (n := k) (hR := hR) (hW := hW) (hn := (by omega))) lk_X6_billOf w_6_6 [0, 1, 2, 3, 4] rfl dX6_unlike_16 rfl rfl rfl rfl ⟨by decide, by decide⟩ (Nat.le_of_ble_eq_true rfl) ?_
        rintro _ _ ⟨ta_4, tb_5, tc_6, rfl, rfl⟩
        show ω [(hM, .inr (6, [.int (nI rf), .ref x1, .int (nI sz), .ref x3, .ref x4, .ref x5, .int (nI ac), .ref x7, .ref x8, .ref x9, .ref x10, .ref x11, .int (nI sp), .int (nI ou)])), (x9, .inl (eI E, 6, .inl ta_4)), (x10, .inl (eI E, 6, .inl tb_5)), (x11, .inl (eI E, 6, .inl tc_6)), (x3, .inl (eI E, 255, .inl g))] [(2, .int (nI k)), (1, .int (nI m)), (0, .ref hM)] [.long (blL σ k)] 19
        refine r_lstore_n C (lv' := [(3, .long (blL σ k)), (2, .int (nI k)), (1, .int (nI m)), (0, .ref hM)]) dX6_unlike_19 rfl (by decide) rfl ?_
        have join31_7 : ∀ (f0 : Nat), (f0 = nwB σ k 0) → ω [(hM, .inr (6, [.int (nI rf), .ref x1, .int (nI sz), .ref x3, .ref x4, .ref x5, .int (nI ac), .ref x7, .ref x8, .ref x9, .ref x10, .ref x11, .int (nI sp), .int (nI ou)])), (x9, .inl (eI E, 6, .inl ta_4)), (x10, .inl (eI E, 6, .inl tb_5)), (x11, .inl (eI E, 6, .inl tc_6)), (x3, .inl (eI E, 255, .inl g))] [(3, .long (blL σ k)), (2, .int (nI k)), (1, .int (nI m)), (0, .ref hM)] [.int (nI f0)] 31 := by
          intro f0 hf0
          refine r_istore C (lv' := [(5, .int (nI f0)), (3, .long (blL σ k)), (2, .int (nI k)), (1, .int (nI m)), (0, .ref hM)]) dX6_unlike_31 (by decide) rfl ?_
          refine r_iconst C dX6_unlike_33 ki_0 ?_
          refine r_istore C (lv' := [(6, .int (nI 0)), (5, .int (nI f0)), (3, .long (blL σ k)), (2, .int (nI k)), (1, .int (nI m)), (0, .ref hM)]) dX6_unlike_34 (by decide) rfl ?_
          have loop36_8 : ∀ (dd9 : Nat) (i : Nat) (f : Nat) (s1 : Nat → Int32) (s2 : Nat → Int32) (s3 : Nat → Int32), k - i < dd9 → (i ≤ k) → (f = nwB σ k i) → ω [(hM, .inr (6, [.int (nI rf), .ref x1, .int (nI sz), .ref x3, .ref x4, .ref x5, .int (nI ac), .ref x7, .ref x8, .ref x9, .ref x10, .ref x11, .int (nI sp), .int (nI ou)])), (x9, .inl (eI E, 6, .inl s1)), (x10, .inl (eI E, 6, .inl s2)), (x11, .inl (eI E, 6, .inl s3)), (x3, .inl (eI E, 255, .inl g))] [(6, .int (nI i)), (5, .int (nI f)), (3, .long (blL σ k)), (2, .int (nI k)), (1, .int (nI m)), (0, .ref hM)] [] 36 := by
            intro dd9
            induction dd9 with
            | zero => intro i f s1 s2 s3 hd; exact absurd hd (Nat.not_lt_zero _)
            | succ dd9 ih9 =>
              intro i f s1 s2 s3 hd hi hf
              have hfl : f ≤ 1 := by rw [hf]; unfold nwB; split <;> omega
              refine r_iload C (i := 6) 0 dX6_unlike_36 rfl ?_
              refine r_iload_n C (i := 2) 3 dX6_unlike_38 rfl rfl ?_
              refine r_icmp_ge C (c9 := k ≤ i) 75 dX6_unlike_39 (by decide) (c_leNN (by omega) (by omega)) (fun h39_10 => ?_) (fun h39_10 => ?_)
              · refine r_iload_n C (i := 1) 4 dX6_unlike_75 rfl rfl ?_
                refine r_iload C (i := 5) 1 dX6_unlike_76 rfl ?_
                refine r_if_eq C (y := 0) (c9 := f = 0) 85 dX6_unlike_78 (by decide) (z_eqN (by omega)) (fun h78_11 => ?_) (fun h78_11 => ?_)
                · refine r_iconst C dX6_unlike_85 ki_0 ?_
                  refine r_iadd (v := nI (m + 0)) C dX6_unlike_86 (nI_add _ _) ?_
                  refine r_istore_n C (lv' := [(1, .int (nI (m + 0))), (6, .int (nI i)), (5, .int (nI f)), (3, .long (blL σ k)), (2, .int (nI k)), (0, .ref hM)]) dX6_unlike_87 rfl (by decide) rfl ?_
                  refine r_iinc C (lv' := [(2, .int (nI (k + 1))), (1, .int (nI (m + 0))), (6, .int (nI i)), (5, .int (nI f)), (3, .long (blL σ k)), (0, .ref hM)]) (v := nI (k + 1)) 4 dX6_unlike_88 rfl (v_inc _) (by decide) rfl ?_
                  refine r_goto C 4 dX6_unlike_91 (by decide) ?_
                  refine r_lv (lv' := [(2, .int (nI (k + 1))), (1, .int (nI (m + 0))), (0, .ref hM)]) C [0, 1, 5] rfl ?_
                  exact ih2 (k + 1) (m + 0) s1 s2 s3 (by omega) (by omega) (by obtain rfl : i = k := (by omega); rw [unlN_s, hm, ← hf]; omega)
                · refine r_iconst C dX6_unlike_81 ki_1 ?_
                  refine r_goto C 86 dX6_unlike_82 (by decide) ?_
                  refine r_iadd (v := nI (m + 1)) C dX6_unlike_86 (nI_add _ _) ?_
                  refine r_istore_n C (lv' := [(1, .int (nI (m + 1))), (6, .int (nI i)), (5, .int (nI f)), (3, .long (blL σ k)), (2, .int (nI k)), (0, .ref hM)]) dX6_unlike_87 rfl (by decide) rfl ?_
                  refine r_iinc C (lv' := [(2, .int (nI (k + 1))), (1, .int (nI (m + 1))), (6, .int (nI i)), (5, .int (nI f)), (3, .long (blL σ k)), (0, .ref hM)]) (v := nI (k + 1)) 4 dX6_unlike_88 rfl (v_inc _) (by decide) rfl ?_
                  refine r_goto C 4 dX6_unlike_91 (by decide) ?_
                  refine r_lv (lv' := [(2, .int (nI (k + 1))), (1, .int (nI (m + 1))), (0, .ref hM)]) C [0, 1, 5] rfl ?_
                  exact ih2 (k + 1) (m + 1) s1 s2 s3 (by omega) (by omega) (by obtain rfl : i = k := (by omega); rw [unlN_s, hm, ← hf]; omega)
              · refine r_iload C (i := 5) 1 dX6_unlike_42 rfl ?_
                refine r_if_eq C (y := 0) (c9 := f = 0) 66 dX6_unlike_44 (by decide) (z_eqN (by omega)) (fun h44_12 => ?_) (fun h44_12 => ?_)
                · refine r_iconst C dX6_unlike_66 ki_0 ?_
                  refine r_istore C (lv' := [(5, .int (nI 0)), (6, .int (nI i)), (3, .long (blL σ k)), (2, .int (nI k)), (1, .int (nI m)), (0, .ref hM)]) dX6_unlike_67 (by decide) rfl ?_
                  refine r_iinc C (lv' := [(6, .int (nI (i + 1))), (5, .int (nI 0)), (3, .long (blL σ k)), (2, .int (nI k)), (1, .int (nI m)), (0, .ref hM)]) (v := nI (i + 1)) 1 dX6_unlike_69 rfl (v_inc _) (by decide) rfl ?_
                  refine r_goto C 36 dX6_unlike_72 (by decide) ?_
                  exact ih9 (i + 1) 0 s1 s2 s3 (by omega) (by omega) ((nwB_n (by omega)).symm)
                · refine r_aload_n C (i := 0) 5 dX6_unlike_47 rfl rfl ?_
                  refine r_aload_n C (i := 0) 5 dX6_unlike_48 rfl rfl ?_
                  refine r_get C 0 3 uX6 rfl rfl (by decide) w_5_64 rfl dX6_unlike_49 ?_
                  refine r_iload C (i := 6) 0 dX6_unlike_52 rfl ?_
                  refine r_callV (rest := []) C (c_X6_billOf (hM := hM) (rf := rf) (x1 := x1) (sz := sz) (x3 := x3) (x4 := x4) (x5 := x5) (ac := ac) (x7 := x7) (x8 := x8) (x9 := x9) (x10 := x10) (x11 := x11) (sp := sp) (ou := ou) (t1 := s1) (t2 := s2) (t3 := s3) (r := x3) (g := g) (σ := σ) (n := i) (hR := hR) (hW := hW) (hn := (by omega))) lk_X6_billOf w_6_6 [0, 1, 2, 3, 4] rfl dX6_unlike_54 rfl rfl rfl rfl ⟨by decide, by decide⟩ (Nat.le_of_ble_eq_true rfl) ?_
                  rintro _ _ ⟨ta_13, tb_14, tc_15, rfl, rfl⟩
                  show ω [(hM, .inr (6, [.int (nI rf), .ref x1, .int (nI sz), .ref x3, .ref x4, .ref x5, .int (nI ac), .ref x7, .ref x8, .ref x9, .ref x10, .ref x11, .int (nI sp), .int (nI ou)])), (x9, .inl (eI E, 6, .inl ta_13)), (x10, .inl (eI E, 6, .inl tb_14)), (x11, .inl (eI E, 6, .inl tc_15)), (x3, .inl (eI E, 255, .inl g))] [(6, .int (nI i)), (5, .int (nI f)), (3, .long (blL σ k)), (2, .int (nI k)), (1, .int (nI m)), (0, .ref hM)] [.long (blL σ i)] 57
                  refine r_lload_n C (i := 3) 2 dX6_unlike_57 rfl rfl ?_
                  refine r_lcmp C dX6_unlike_58 rfl ?_
                  refine r_if_eq C (y := 0) (c9 := (blL σ i) = (blL σ k)) 66 dX6_unlike_59 (by decide) (lg_cmp_eq _ _) (fun h59_16 => ?_) (fun h59_16 => ?_)
                  · refine r_iconst C dX6_unlike_66 ki_0 ?_
                    refine r_istore C (lv' := [(5, .int (nI 0)), (6, .int (nI i)), (3, .long (blL σ k)), (2, .int (nI k)), (1, .int (nI m)), (0, .ref hM)]) dX6_unlike_67 (by decide) rfl ?_
                    refine r_iinc C (lv' := [(6, .int (nI (i + 1))), (5, .int (nI 0)), (3, .long (blL σ k)), (2, .int (nI k)), (1, .int (nI m)), (0, .ref hM)]) (v := nI (i + 1)) 1 dX6_unlike_69 rfl (v_inc _) (by decide) rfl ?_
                    refine r_goto C 36 dX6_unlike_72 (by decide) ?_
                    exact ih9 (i + 1) 0 ta_13 tb_14 tc_15 (by omega) (by omega) ((nwB_e ((blL_eq hW (by omega) (by omega)).mp h59_16)).symm)
                  · refine r_iconst C dX6_unlike_62 ki_1 ?_
                    refine r_goto C 67 dX6_unlike_63 (by decide) ?_
                    refine r_istore C (lv' := [(5, .int (nI 1)), (6, .int (nI i)), (3, .long (blL σ k)), (2, .int (nI k)), (1, .int (nI m)), (0, .ref hM)]) dX6_unlike_67 (by decide) rfl ?_
                    refine r_iinc C (lv' := [(6, .int (nI (i + 1))), (5, .int (nI 1)), (3, .long (blL σ k)), (2, .int (nI k)), (1, .int (nI m)), (0, .ref hM)]) (v := nI (i + 1)) 1 dX6_unlike_69 rfl (v_inc _) (by decide) rfl ?_
                    refine r_goto C 36 dX6_unlike_72 (by decide) ?_
                    exact ih9 (i + 1) 1 ta_13 tb_14 tc_15 (by omega) (by omega) ((nwB_y (by omega) (fun z => h59_16 ((blL_eq hW (by omega) (by omega)).mpr z))).symm)
          exact loop36_8 _ 0 f0 ta_4 tb_5 tc_6 (Nat.lt_succ_self _) (by omega) hf0
        refine r_lload_n C (i := 3) 0 dX6_unlike_20 rfl rfl ?_
        refine r_lconst (v := lN 0) C dX6_unlike_21 (by decide +kernel) ?_
        refine r_lcmp C dX6_unlike_22 rfl ?_
        refine r_if_lt C (y := 0) (c9 := (blL σ k) < (lN 0)) 30 dX6_unlike_23 (by decide) (lg_cmp_lt _ _) (fun h23_17 => ?_) (fun h23_17 => ?_)
        · refine r_iconst C dX6_unlike_30 ki_0 ?_
          exact join31_7 0 (by rw [nwB_0, if_pos ((blL_pos hW (by omega)).mp h23_17)])
        · refine r_iconst C dX6_unlike_26 ki_1 ?_
          refine r_goto C 31 dX6_unlike_27 (by decide) ?_
          exact join31_7 1 (by rw [nwB_0, if_neg (fun z => h23_17 ((blL_pos hW (by omega)).mpr z))])
  exact loop4_1 _ 0 0 t1 t2 t3 (Nat.lt_succ_self _) (by omega) rfl
set_option maxRecDepth 100000 in
set_option maxHeartbeats 1000000 in
theorem c_X6_isUsed {l : Launch} {E : Ev} {hM rf x1 sz x3 x4 x5 ac x7 x8 x9 x10 x11 sp ou : Nat} {t1 t2 t3 : Nat → Int32} {g : Nat → Int32} {σ : Sg} (hR : RepM σ g) (hW : Wf σ) {k : Nat} (hk : k < sS σ) : Ct l E yX6_isUsed cX6_isUsed 2 (some FieldType.boolean) 4 99 [.ref hM, .int (nI k)] [(hM, .inr (6, [.int (nI rf), .ref x1, .int (nI sz), .ref x3, .ref x4, .ref x5, .int (nI ac), .ref x7, .ref x8, .ref x9, .ref x10, .ref x11, .int (nI sp), .int (nI ou)])), (x9, .inl (eI E, 6, .inl t1)), (x10, .inl (eI E, 6, .inl t2)), (x11, .inl (eI E, 6, .inl t3)), (x3, .inl (eI E, 255, .inl g))] (fun v9 w9 => ∃ ta tb tc : Nat → Int32, v9 = some (.int (bP (usd σ k))) ∧ w9 = [(hM, .inr (6, [.int (nI rf), .ref x1, .int (nI sz), .ref x3, .ref x4, .ref x5, .int (nI ac), .ref x7, .ref x8, .ref x9, .ref x10, .ref x11, .int (nI sp), .int (nI ou)])), (x9, .inl (eI E, 6, .inl ta)), (x10, .inl (eI E, 6, .inl tb)), (x11, .inl (eI E, 6, .inl tc)), (x3, .inl (eI E, 255, .inl g))]) := by
  have hwP := hW.P
  have hwA := hW.A
  have hwS := hW.S
  have hL := hW.L hk
  refine ct_of (by decide +kernel) (Nat.le_of_ble_eq_true rfl) (fun ω C RT => ?_)
  show ω [(hM, .inr (6, [.int (nI rf), .ref x1, .int (nI sz), .ref x3, .ref x4, .ref x5, .int (nI ac), .ref x7, .ref x8, .ref x9, .ref x10, .ref x11, .int (nI sp), .int (nI ou)])), (x9, .inl (eI E, 6, .inl t1)), (x10, .inl (eI E, 6, .inl t2)), (x11, .inl (eI E, 6, .inl t3)), (x3, .inl (eI E, 255, .inl g))] [(0, .ref hM), (1, .int (nI k))] [] 0
  refine r_aload_n C (i := 0) 0 dX6_isUsed_0 rfl rfl ?_
  refine r_aload_n C (i := 0) 0 dX6_isUsed_1 rfl rfl ?_
  refine r_get C 0 3 uX6 rfl rfl (by decide) w_5_64 rfl dX6_isUsed_2 ?_
  refine r_aload_n C (i := 0) 0 dX6_isUsed_5 rfl rfl ?_
  refine r_get C 0 3 uX6 rfl rfl (by decide) w_5_64 rfl dX6_isUsed_6 ?_
  refine r_iload_n C (i := 1) 1 dX6_isUsed_9 rfl rfl ?_
  refine r_iconst C dX6_isUsed_10 ki_0 ?_
  refine r_readS (rest := [.ref x3, .ref hM]) C (c_X6_slipOf (r := x3) (g := g) (σ := σ) (k := k) (j := 0) (hR := hR) (hW := hW) (hk := (by omega)) (hj := (by omega))) lk_X6_slipOf w_5_208 [4] dX6_isUsed_11 rfl rfl rfl ⟨by decide, by decide⟩ (Nat.le_of_ble_eq_true rfl) (st' := [.int (nI (sL σ k 0)), .ref x3, .ref hM]) rfl ?_
  refine r_callV (rest := []) C (c_X6_goThrough (hM := hM) (rf := rf) (x1 := x1) (sz := sz) (x3 := x3) (x4 := x4) (x5 := x5) (ac := ac) (x7 := x7) (x8 := x8) (x9 := x9) (x10 := x10) (x11 := x11) (sp := sp) (ou := ou) (t1 := t1) (t2 := t2) (t3 := t3) (r := x3) (g := g) (σ := σ) (n := sL σ k 0) (hR := hR) (hW := hW) (hn := (by omega))) lk_X6_goThrough w_5_211 [0, 1, 2, 3, 4] rfl dX6_isUsed_14 rfl rfl rfl rfl ⟨by decide, by decide⟩ (Nat.le_of_ble_eq_true rfl) ?_
  rintro _ _ ⟨ta_1, tb_2, tc_3, rfl, rfl, hEv_4⟩
  show ω [(hM, .inr (6, [.int (nI rf), .ref x1, .int (nI sz), .ref x3, .ref x4, .ref x5, .int (nI ac), .ref x7, .ref x8, .ref x9, .ref x10, .ref x11, .int (nI sp), .int (nI ou)])), (x9, .inl (eI E, 6, .inl ta_1)), (x10, .inl (eI E, 6, .inl tb_2)), (x11, .inl (eI E, 6, .inl tc_3)), (x3, .inl (eI E, 255, .inl g))] [(0, .ref hM), (1, .int (nI k))] [.int (bP (dk σ (sL σ k 0) = 1))] 17
  refine r_if_ne C (y := 0) (c9 := dk σ (sL σ k 0) = 1) 42 dX6_isUsed_17 (by decide) z_neB (fun h17_5 => ?_) (fun h17_5 => ?_)
  · refine r_iconst C dX6_isUsed_42 ki_0 ?_
    exact RT.1 _ _ _ _ _ dX6_isUsed_43 rfl nar_0 (⟨_, _, _, sv (bP_f (fun z => by have := z.1; have := z.2; omega)), rfl⟩) rfl
  · have hdk := dk_le σ (sL σ k 0)
    have hBl := Bs_le σ (sL σ k 0) (sL σ k 1)
    refine r_aload_n C (i := 0) 0 dX6_isUsed_20 rfl rfl ?_
    refine r_get C 0 11 uX6 rfl rfl (by decide) w_5_72 rfl dX6_isUsed_21 ?_
    refine r_aload_n C (i := 0) 0 dX6_isUsed_24 rfl rfl ?_
    refine r_get C 0 3 uX6 rfl rfl (by decide) w_5_64 rfl dX6_isUsed_25 ?_
    refine r_iload_n C (i := 1) 1 dX6_isUsed_28 rfl rfl ?_
    refine r_iconst C dX6_isUsed_29 ki_1 ?_
    refine r_readS (rest := [.ref x11]) C (c_X6_slipOf (r := x3) (g := g) (σ := σ) (k := k) (j := 1) (hR := hR) (hW := hW) (hk := (by omega)) (hj := (by omega))) lk_X6_slipOf w_5_208 [4] dX6_isUsed_30 rfl rfl rfl ⟨by decide, by decide⟩ (Nat.le_of_ble_eq_true rfl) (st' := [.int (nI (sL σ k 1)), .ref x11]) rfl ?_
    refine r_iald (j := sL σ k 1) (v := mI (Bs σ (sL σ k 0) (sL σ k 1))) C 3 rfl (by omega) (by decide) ((hEv_4 _ hL.2.1).2.2) dX6_isUsed_33 ?_
    refine r_iload_n C (i := 1) 1 dX6_isUsed_34 rfl rfl ?_
    refine r_icmp_ne C (c9 := Bs σ (sL σ k 0) (sL σ k 1) ≠ k + 1) 42 dX6_isUsed_35 (by decide) (c_neMN (by omega) (by omega)) (fun h35_6 => ?_) (fun h35_6 => ?_)
    · refine r_iconst C dX6_isUsed_42 ki_0 ?_
      exact RT.1 _ _ _ _ _ dX6_isUsed_43 rfl nar_0 (⟨_, _, _, sv (bP_f (fun z => by have := z.1; have := z.2; omega)), rfl⟩) rfl
    · refine r_iconst C dX6_isUsed_38 ki_1 ?_
      refine r_goto C 43 dX6_isUsed_39 (by decide) ?_
      exact RT.1 _ _ _ _ _ dX6_isUsed_43 rfl nar_1 (⟨_, _, _, sv (bP_t ⟨by omega, by omega⟩), rfl⟩) rfl
set_option maxRecDepth 100000 in
set_option maxHeartbeats 1000000 in
theorem c_X6_isPlayed {l : Launch} {E : Ev} {hM rf x1 sz x3 x4 x5 ac x7 x8 x9 x10 x11 sp ou : Nat} {t1 t2 t3 : Nat → Int32} {g : Nat → Int32} {σ : Sg} (hR : RepM σ g) (hW : Wf σ) {n p a : Nat} (hn : n < 20) (hp : p < sP σ) (ha : a < 2147483648) : Ct l E yX6_isPlayed cX6_isPlayed 4 (some FieldType.boolean) 4 99 [.ref hM, .int (nI n), .int (nI p), .int (nI a)] [(hM, .inr (6, [.int (nI rf), .ref x1, .int (nI sz), .ref x3, .ref x4, .ref x5, .int (nI ac), .ref x7, .ref x8, .ref x9, .ref x10, .ref x11, .int (nI sp), .int (nI ou)])), (x9, .inl (eI E, 6, .inl t1)), (x10, .inl (eI E, 6, .inl t2)), (x11, .inl (eI E, 6, .inl t3)), (x3, .inl (eI E, 255, .inl g))] (fun v9 w9 => ∃ ta tb tc : Nat → Int32, v9 = some (.int (bP (isPl σ p a n))) ∧ w9 = [(hM, .inr (6, [.int (nI rf), .ref x1, .int (nI sz), .ref x3, .ref x4, .ref x5, .int (nI ac), .ref x7, .ref x8, .ref x9, .ref x10, .ref x11, .int (nI sp), .int (nI ou)])), (x9, .inl (eI E, 6, .inl ta)), (x10, .inl (eI E, 6, .inl tb)), (x11, .inl (eI E, 6, .inl tc)), (x3, .inl (eI E, 255, .inl g))]) := by
  have hwP := hW.P
  have hwA := hW.A
  have hwS := hW.S
  refine ct_of (by decide +kernel) (Nat.le_of_ble_eq_true rfl) (fun ω C RT => ?_)
  show ω [(hM, .inr (6, [.int (nI rf), .ref x1, .int (nI sz), .ref x3, .ref x4, .ref x5, .int (nI ac), .ref x7, .ref x8, .ref x9, .ref x10, .ref x11, .int (nI sp), .int (nI ou)])), (x9, .inl (eI E, 6, .inl t1)), (x10, .inl (eI E, 6, .inl t2)), (x11, .inl (eI E, 6, .inl t3)), (x3, .inl (eI E, 255, .inl g))] [(0, .ref hM), (1, .int (nI n)), (2, .int (nI p)), (3, .int (nI a))] [] 0
  refine r_aload_n C (i := 0) 0 dX6_isPlayed_0 rfl rfl ?_
  refine r_aload_n C (i := 0) 0 dX6_isPlayed_1 rfl rfl ?_
  refine r_get C 0 3 uX6 rfl rfl (by decide) w_5_64 rfl dX6_isPlayed_2 ?_
  refine r_iload_n C (i := 1) 1 dX6_isPlayed_5 rfl rfl ?_
  refine r_callV (rest := []) C (c_X6_goThrough (hM := hM) (rf := rf) (x1 := x1) (sz := sz) (x3 := x3) (x4 := x4) (x5 := x5) (ac := ac) (x7 := x7) (x8 := x8) (x9 := x9) (x10 := x10) (x11 := x11) (sp := sp) (ou := ou) (t1 := t1) (t2 := t2) (t3 := t3) (r := x3) (g := g) (σ := σ) (n := n) (hR := hR) (hW := hW) (hn := (by omega))) lk_X6_goThrough w_5_211 [0, 1, 2, 3, 4] rfl dX6_isPlayed_6 rfl rfl rfl rfl ⟨by decide, by decide⟩ (Nat.le_of_ble_eq_true rfl) ?_
  rintro _ _ ⟨ta_1, tb_2, tc_3, rfl, rfl, hEv_4⟩
  show ω [(hM, .inr (6, [.int (nI rf), .ref x1, .int (nI sz), .ref x3, .ref x4, .ref x5, .int (nI ac), .ref x7, .ref x8, .ref x9, .ref x10, .ref x11, .int (nI sp), .int (nI ou)])), (x9, .inl (eI E, 6, .inl ta_1)), (x10, .inl (eI E, 6, .inl tb_2)), (x11, .inl (eI E, 6, .inl tc_3)), (x3, .inl (eI E, 255, .inl g))] [(0, .ref hM), (1, .int (nI n)), (2, .int (nI p)), (3, .int (nI a))] [.int (bP (dk σ n = 1))] 9
  refine r_if_ne C (y := 0) (c9 := dk σ n = 1) 26 dX6_isPlayed_9 (by decide) z_neB (fun h9_5 => ?_) (fun h9_5 => ?_)
  · refine r_iconst C dX6_isPlayed_26 ki_0 ?_
    exact RT.1 _ _ _ _ _ dX6_isPlayed_27 rfl nar_0 (⟨_, _, _, sv (bP_f (fun z => by have := z.1; have := z.2; omega)), rfl⟩) rfl
  · have hdk := dk_le σ n
    have hTl := T_le hW hp hn
    refine r_aload_n C (i := 0) 0 dX6_isPlayed_12 rfl rfl ?_
    refine r_get C 0 9 uX6 rfl rfl (by decide) w_5_70 rfl dX6_isPlayed_13 ?_
    refine r_iload_n C (i := 2) 2 dX6_isPlayed_16 rfl rfl ?_
    refine r_iald (j := p) (v := mI (T σ n p)) C 1 rfl (by omega) (by decide) ((hEv_4 _ hp).1) dX6_isPlayed_17 ?_
    refine r_iload_n C (i := 3) 3 dX6_isPlayed_18 rfl rfl ?_
    refine r_icmp_ne C (c9 := T σ n p ≠ a + 1) 26 dX6_isPlayed_19 (by decide) (c_neMN (by omega) (by omega)) (fun h19_6 => ?_) (fun h19_6 => ?_)
    · refine r_iconst C dX6_isPlayed_26 ki_0 ?_
      exact RT.1 _ _ _ _ _ dX6_isPlayed_27 rfl nar_0 (⟨_, _, _, sv (bP_f (fun z => by have := z.1; have := z.2; omega)), rfl⟩) rfl
    · refine r_iconst C dX6_isPlayed_22 ki_1 ?_
      refine r_goto C 27 dX6_isPlayed_23 (by decide) ?_
      exact RT.1 _ _ _ _ _ dX6_isPlayed_27 rfl nar_1 (⟨_, _, _, sv (bP_t ⟨by omega, by omega⟩), rfl⟩) rfl
theorem lrow {v t : Nat} (h : t < 2147483648) : lN (11 * v) + (mI t).toInt64 + lN 1 = lN (11 * v + t) := by
  rw [Int64.add_assoc, lM1 t h, lN_add]
set_option maxRecDepth 100000 in
set_option maxHeartbeats 1000000 in
theorem c_X6_row {l : Launch} {E : Ev} {hM rf x1 sz x3 x4 x5 ac x7 x8 x9 x10 x11 sp ou : Nat} {t1 : Nat → Int32} {g : Nat → Int32} {σ : Sg} (hR : RepM σ g) (hW : Wf σ) {sg : Sg} {n : Nat} (hT : ∀ p, p < sP σ → t1 p = mI (T sg n p)) (hTl : ∀ p, p < sP σ → T sg n p ≤ 10) : Cr l E yX6_row cX6_row 4 (some FieldType.long) 0 0 [.ref hM] [(hM, .inr (6, [.int (nI rf), .ref x1, .int (nI sz), .ref x3, .ref x4, .ref x5, .int (nI ac), .ref x7, .ref x8, .ref x9, .ref x10, .ref x11, .int (nI sp), .int (nI ou)])), (x9, .inl (eI E, 6, .inl t1)), (x3, .inl (eI E, 255, .inl g))] (some (.long (lN (rwN sg n (sP σ))))) := by
  have hwP := hW.P
  have hwA := hW.A
  have hwS := hW.S
  refine ct_of (by decide +kernel) (Nat.le_of_ble_eq_true rfl) (fun ω C RT => ?_)
  show ω [(hM, .inr (6, [.int (nI rf), .ref x1, .int (nI sz), .ref x3, .ref x4, .ref x5, .int (nI ac), .ref x7, .ref x8, .ref x9, .ref x10, .ref x11, .int (nI sp), .int (nI ou)])), (x9, .inl (eI E, 6, .inl t1)), (x3, .inl (eI E, 255, .inl g))] [(0, .ref hM)] [] 0
  refine r_lconst (v := lN 0) C dX6_row_0 (by decide +kernel) ?_
  refine r_lstore_n C (lv' := [(1, .long (lN 0)), (0, .ref hM)]) dX6_row_1 rfl (by decide) rfl ?_
  refine r_iconst C dX6_row_2 ki_0 ?_
  refine r_istore_n C (lv' := [(3, .int (nI 0)), (1, .long (lN 0)), (0, .ref hM)]) dX6_row_3 rfl (by decide) rfl ?_
  have loop4_1 : ∀ (dd9 : Nat) (p : Nat) (v : Nat), sP σ - p < dd9 → (p ≤ sP σ) → (v = rwN sg n p) → ω [(hM, .inr (6, [.int (nI rf), .ref x1, .int (nI sz), .ref x3, .ref x4, .ref x5, .int (nI ac), .ref x7, .ref x8, .ref x9, .ref x10, .ref x11, .int (nI sp), .int (nI ou)])), (x9, .inl (eI E, 6, .inl t1)), (x3, .inl (eI E, 255, .inl g))] [(3, .int (nI p)), (1, .long (lN v)), (0, .ref hM)] [] 4 := by
    intro dd9
    induction dd9 with
    | zero => intro p v hd; exact absurd hd (Nat.not_lt_zero _)
    | succ dd9 ih2 =>
      intro p v hd hp hv
      refine r_iload_n C (i := 3) 0 dX6_row_4 rfl rfl ?_
      refine r_aload_n C (i := 0) 2 dX6_row_5 rfl rfl ?_
      refine r_get C 0 3 uX6 rfl rfl (by decide) w_5_64 rfl dX6_row_6 ?_
      refine r_iconst C dX6_row_9 ki_0 ?_
      refine r_iald (j := 0) (v := nI (sP σ)) C 2 rfl (by omega) (by decide) hR.P dX6_row_10 ?_
      refine r_icmp_ge C (c9 := sP σ ≤ p) 36 dX6_row_11 (by decide) (c_leNN (by omega) (by omega)) (fun h11_3 => ?_) (fun h11_3 => ?_)
      · refine r_lload_n C (i := 1) 1 dX6_row_36 rfl rfl ?_
        exact RT.2.1 _ _ _ _ dX6_row_37 rfl (rd_l (congrArg lN (by rw [hv, (by omega : p = sP σ)]))) rfl
      · refine r_ldc2 (v := lN 11) C dX6_row_14 w_6_129 ?_
        refine r_lload_n C (i := 1) 1 dX6_row_17 rfl rfl ?_
        refine r_lmul (v := lN (11 * v)) C dX6_row_18 (lN_mul _ _) ?_
        refine r_aload_n C (i := 0) 2 dX6_row_19 rfl rfl ?_
        refine r_get C 0 9 uX6 rfl rfl (by decide) w_5_70 rfl dX6_row_20 ?_
        refine r_iload_n C (i := 3) 0 dX6_row_23 rfl rfl ?_
        refine r_iald (j := p) (v := mI (T sg n p)) C 1 rfl (by omega) (by decide) (hT p (by omega)) dX6_row_24 ?_
        refine r_i2l (v := (mI (T sg n p)).toInt64) C dX6_row_25 rfl ?_
        refine r_ladd (v := lN (11 * v) + (mI (T sg n p)).toInt64) C dX6_row_26 rfl ?_
        refine r_lconst (v := lN 1) C dX6_row_27 (by decide +kernel) ?_
        refine r_ladd (v := lN (11 * v + T sg n p)) C dX6_row_28 (lrow (by have := hTl p (by omega); omega)) ?_
        refine r_lstore_n C (lv' := [(1, .long (lN (11 * v + T sg n p))), (3, .int (nI p)), (0, .ref hM)]) dX6_row_29 rfl (by decide) rfl ?_
        refine r_iinc C (lv' := [(3, .int (nI (p + 1))), (1, .long (lN (11 * v + T sg n p))), (0, .ref hM)]) (v := nI (p + 1)) 1 dX6_row_30 rfl (v_inc _) (by decide) rfl ?_
        refine r_goto C 4 dX6_row_33 (by decide) ?_
        exact ih2 (p + 1) (11 * v + T sg n p) (by omega) (by omega) (by rw [rwN, hv])
  exact loop4_1 _ 0 0 (Nat.lt_succ_self _) (by omega) rfl
set_option maxRecDepth 100000 in
set_option maxHeartbeats 1000000 in
theorem c_X6_about {l : Launch} {E : Ev} {hM rf x1 sz x3 x4 x5 ac x7 x8 x9 x10 x11 sp ou : Nat} {t1 t2 t3 : Nat → Int32} {g : Nat → Int32} {σ : Sg} (hR : RepM σ g) (hW : Wf σ) {w : Nat} (hw : w < 7) : Ct l E yX6_about cX6_about 4 (some FieldType.int) 6 150 [.ref hM, .int (nI w)] [(hM, .inr (6, [.int (nI rf), .ref x1, .int (nI sz), .ref x3, .ref x4, .ref x5, .int (nI ac), .ref x7, .ref x8, .ref x9, .ref x10, .ref x11, .int (nI sp), .int (nI ou)])), (x9, .inl (eI E, 6, .inl t1)), (x10, .inl (eI E, 6, .inl t2)), (x11, .inl (eI E, 6, .inl t3)), (x3, .inl (eI E, 255, .inl g))] (fun v9 w9 => ∃ ta tb tc : Nat → Int32, v9 = some (.int (aAbout σ w)) ∧ w9 = [(hM, .inr (6, [.int (nI 0), .ref x1, .int (nI sz), .ref x3, .ref x4, .ref x5, .int (nI ac), .ref x7, .ref x8, .ref x9, .ref x10, .ref x11, .int (nI sp), .int (nI ou)])), (x9, .inl (eI E, 6, .inl ta)), (x10, .inl (eI E, 6, .inl tb)), (x11, .inl (eI E, 6, .inl tc)), (x3, .inl (eI E, 255, .inl g))]) := by
  have hwP := hW.P
  have hwA := hW.A
  have hwS := hW.S
  refine ct_of (by decide +kernel) (Nat.le_of_ble_eq_true rfl) (fun ω C RT => ?_)
  show ω [(hM, .inr (6, [.int (nI rf), .ref x1, .int (nI sz), .ref x3, .ref x4, .ref x5, .int (nI ac), .ref x7, .ref x8, .ref x9, .ref x10, .ref x11, .int (nI sp), .int (nI ou)])), (x9, .inl (eI E, 6, .inl t1)), (x10, .inl (eI E, 6, .inl t2)), (x11, .inl (eI E, 6, .inl t3)), (x3, .inl (eI E, 255, .inl g))] [(0, .ref hM), (1, .int (nI w))] [] 0
  refine r_aload_n C (i := 0) 0 dX6_about_0 rfl rfl ?_
  refine r_iload_n C (i := 1) 1 dX6_about_1 rfl rfl ?_
  refine r_i2l (v := lN w) C dX6_about_2 (v_i2l (by omega)) ?_
  refine r_lconst (v := lN 0) C dX6_about_3 (by decide +kernel) ?_
  refine r_ldc2 (v := lN 6) C dX6_about_4 w_5_203 ?_
  refine r_readS (rest := [.ref hM]) C (c_X6_in (v := lN w) (lw := lN 0) (hg := lN 6)) lk_X6_in w_5_113 [] dX6_about_7 rfl rfl rfl ⟨by decide, by decide⟩ (Nat.le_of_ble_eq_true rfl) (st' := [.int (bP (lN 0 ≤ lN w ∧ lN w ≤ lN 6)), .ref hM]) rfl ?_
  refine r_st (st' := [.int (bP (w ≤ 6)), .ref hM]) (by rw [bP_c (in_N (by omega) (by omega))]) ?_
  refine r_if_eq C (y := 0) (c9 := ¬ (w ≤ 6)) 17 dX6_about_10 (by decide) z_eqB (fun h10_1 => ?_) (fun h10_1 => ?_)
  · refine r_iconst C dX6_about_17 ki_1 ?_
    first | (exfalso; omega) | (exfalso; simp_all; done)
  · replace h10_1 : w ≤ 6 := Decidable.not_not.mp h10_1
    refine r_iconst C dX6_about_13 ki_0 ?_
    refine r_goto C 18 dX6_about_14 (by decide) ?_
    refine r_callV (rest := []) C (c_X6_refused (hM := hM) (rf := rf) (x1 := x1) (sz := sz) (x3 := x3) (x4 := x4) (x5 := x5) (ac := ac) (x7 := x7) (x8 := x8) (x9 := x9) (x10 := x10) (x11 := x11) (sp := sp) (ou := ou) (w := 0) (hw := (by omega))) lk_X6_refused w_5_116 [0] rfl dX6_about_18 rfl rfl rfl rfl ⟨by decide, by decide⟩ (Nat.le_of_ble_eq_true rfl) ?_
    rintro _ _ ⟨rfl, rfl⟩
    show ω [(hM, .inr (6, [.int (nI 0), .ref x1, .int (nI sz), .ref x3, .ref x4, .ref x5, .int (nI ac), .ref x7, .ref x8, .ref x9, .ref x10, .ref x11, .int (nI sp), .int (nI ou)])), (x9, .inl (eI E, 6, .inl t1)), (x10, .inl (eI E, 6, .inl t2)), (x11, .inl (eI E, 6, .inl t3)), (x3, .inl (eI E, 255, .inl g))] [(0, .ref hM), (1, .int (nI w))] [.int (bP (0 < 0))] 21
    refine r_if_eqT C (y := 0) 26 dX6_about_21 (by decide) (z_eqB.mpr (by decide)) ?_
    refine r_iconst C dX6_about_26 ki_0 ?_
    refine r_istore_n C (lv' := [(2, .int (nI 0)), (0, .ref hM), (1, .int (nI w))]) dX6_about_27 rfl (by decide) rfl ?_
    refine r_iconst C dX6_about_28 ki_0 ?_
    refine r_istore_n C (lv' := [(3, .int (nI 0)), (2, .int (nI 0)), (0, .ref hM), (1, .int (nI w))]) dX6_about_29 rfl (by decide) rfl ?_
    have loop30_2 : ∀ (dd9 : Nat) (k : Nat) (m : Nat) (s1 : Nat → Int32) (s2 : Nat → Int32) (s3 : Nat → Int32), sS σ - k < dd9 → (k ≤ sS σ) → (m = usN σ k) → ω [(hM, .inr (6, [.int (nI 0), .ref x1, .int (nI sz), .ref x3, .ref x4, .ref x5, .int (nI ac), .ref x7, .ref x8, .ref x9, .ref x10, .ref x11, .int (nI sp), .int (nI ou)])), (x9, .inl (eI E, 6, .inl s1)), (x10, .inl (eI E, 6, .inl s2)), (x11, .inl (eI E, 6, .inl s3)), (x3, .inl (eI E, 255, .inl g))] [(3, .int (nI k)), (2, .int (nI m)), (0, .ref hM), (1, .int (nI w))] [] 30 := by
      intro dd9
      induction dd9 with
      | zero => intro k m s1 s2 s3 hd; exact absurd hd (Nat.not_lt_zero _)
      | succ dd9 ih3 =>
        intro k m s1 s2 s3 hd hk hm
        have hml := usN_le σ k
        refine r_iload_n C (i := 3) 0 dX6_about_30 rfl rfl ?_
        refine r_aload_n C (i := 0) 2 dX6_about_31 rfl rfl ?_
        refine r_get C 0 3 uX6 rfl rfl (by decide) w_5_64 rfl dX6_about_32 ?_
        refine r_iconst C dX6_about_35 ki_2 ?_
        refine r_iald (j := 2) (v := nI (sS σ)) C 4 rfl (by omega) (by decide) hR.S dX6_about_36 ?_
        refine r_icmp_ge C (c9 := sS σ ≤ k) 62 dX6_about_37 (by decide) (c_leNN (by omega) (by omega)) (fun h37_4 => ?_) (fun h37_4 => ?_)
        · refine r_iload_n C (i := 1) 3 dX6_about_62 rfl rfl ?_
          refine r_iconst C dX6_about_63 ki_3 ?_
          refine r_icmp_ge C (c9 := 3 ≤ w) 76 dX6_about_64 (by decide) (c_leNN (by omega) (by omega)) (fun h64_5 => ?_) (fun h64_5 => ?_)
          · refine r_iload_n C (i := 1) 3 dX6_about_76 rfl rfl ?_
            refine r_iconst C dX6_about_77 ki_3 ?_
            refine r_icmp_ne C (c9 := w ≠ 3) 92 dX6_about_78 (by decide) (c_neNN (by omega) (by omega)) (fun h78_6 => ?_) (fun h78_6 => ?_)
            · refine r_iload_n C (i := 1) 3 dX6_about_92 rfl rfl ?_
              refine r_iconst C dX6_about_93 ki_4 ?_
              refine r_icmp_ne C (c9 := w ≠ 4) 108 dX6_about_94 (by decide) (c_neNN (by omega) (by omega)) (fun h94_7 => ?_) (fun h94_7 => ?_)
              · refine r_iload_n C (i := 1) 3 dX6_about_108 rfl rfl ?_
                refine r_iconst C dX6_about_109 ki_5 ?_
                refine r_icmp_ne C (c9 := w ≠ 5) 120 dX6_about_110 (by decide) (c_neNN (by omega) (by omega)) (fun h110_8 => ?_) (fun h110_8 => ?_)
                · refine r_iload_n C (i := 2) 1 dX6_about_120 rfl rfl ?_
                  exact RT.1 _ _ _ _ _ dX6_about_121 rfl rfl (⟨_, _, _, sv (by rw [aAbout, if_neg (by omega), if_neg (by omega), if_neg (by omega), if_neg (by omega), hm, (by omega : k = sS σ)]), rfl⟩) rfl
                · refine r_aload_n C (i := 0) 2 dX6_about_113 rfl rfl ?_
                  refine r_callV (rest := []) C (c_X6_unlike (hM := hM) (rf := 0) (x1 := x1) (sz := sz) (x3 := x3) (x4 := x4) (x5 := x5) (ac := ac) (x7 := x7) (x8 := x8) (x9 := x9) (x10 := x10) (x11 := x11) (sp := sp) (ou := ou) (t1 := s1) (t2 := s2) (t3 := s3) (g := g) (σ := σ) (hR := hR) (hW := hW)) lk_X6_unlike w_6_2 [0, 1, 2, 3, 4] rfl dX6_about_114 rfl rfl rfl rfl ⟨by decide, by decide⟩ (Nat.le_of_ble_eq_true rfl) ?_
                  rintro _ _ ⟨ta_9, tb_10, tc_11, rfl, rfl⟩
                  show ω [(hM, .inr (6, [.int (nI 0), .ref x1, .int (nI sz), .ref x3, .ref x4, .ref x5, .int (nI ac), .ref x7, .ref x8, .ref x9, .ref x10, .ref x11, .int (nI sp), .int (nI ou)])), (x9, .inl (eI E, 6, .inl ta_9)), (x10, .inl (eI E, 6, .inl tb_10)), (x11, .inl (eI E, 6, .inl tc_11)), (x3, .inl (eI E, 255, .inl g))] [(3, .int (nI k)), (2, .int (nI m)), (0, .ref hM), (1, .int (nI w))] [.int (nI (unlN σ 20))] 117
                  refine r_goto C 121 dX6_about_117 (by decide) ?_
                  exact RT.1 _ _ _ _ _ dX6_about_121 rfl rfl (⟨_, _, _, sv (by rw [aAbout, if_neg (by omega), if_neg (by omega), if_neg (by omega), if_pos (by omega)]), rfl⟩) rfl
              · refine r_aload_n C (i := 0) 2 dX6_about_97 rfl rfl ?_
                refine r_aload_n C (i := 0) 2 dX6_about_98 rfl rfl ?_
                refine r_get C 0 3 uX6 rfl rfl (by decide) w_5_64 rfl dX6_about_99 ?_
                refine r_callV (rest := []) C (c_X6_allTakings (hM := hM) (rf := 0) (x1 := x1) (sz := sz) (x3 := x3) (x4 := x4) (x5 := x5) (ac := ac) (x7 := x7) (x8 := x8) (x9 := x9) (x10 := x10) (x11 := x11) (sp := sp) (ou := ou) (t1 := s1) (t2 := s2) (t3 := s3) (r := x3) (g := g) (σ := σ) (hR := hR) (hW := hW)) lk_X6_allTakings w_5_234 [0, 1, 2, 3, 4] rfl dX6_about_102 rfl rfl rfl rfl ⟨by decide, by decide⟩ (Nat.le_of_ble_eq_true rfl) ?_
                rintro _ _ ⟨ta_12, tb_13, tc_14, rfl, rfl⟩
                show ω [(hM, .inr (6, [.int (nI 0), .ref x1, .int (nI sz), .ref x3, .ref x4, .ref x5, .int (nI ac), .ref x7, .ref x8, .ref x9, .ref x10, .ref x11, .int (nI sp), .int (nI ou)])), (x9, .inl (eI E, 6, .inl ta_12)), (x10, .inl (eI E, 6, .inl tb_13)), (x11, .inl (eI E, 6, .inl tc_14)), (x3, .inl (eI E, 255, .inl g))] [(3, .int (nI k)), (2, .int (nI m)), (0, .ref hM), (1, .int (nI w))] [.int (nI (tkS σ 20))] 105
                refine r_goto C 121 dX6_about_105 (by decide) ?_
                exact RT.1 _ _ _ _ _ dX6_about_121 rfl rfl (⟨_, _, _, sv (by rw [aAbout, if_neg (by omega), if_neg (by omega), if_pos (by omega)]), rfl⟩) rfl
            · refine r_aload_n C (i := 0) 2 dX6_about_81 rfl rfl ?_
              refine r_aload_n C (i := 0) 2 dX6_about_82 rfl rfl ?_
              refine r_get C 0 3 uX6 rfl rfl (by decide) w_5_64 rfl dX6_about_83 ?_
              refine r_callV (rest := []) C (c_X6_dark (hM := hM) (rf := 0) (x1 := x1) (sz := sz) (x3 := x3) (x4 := x4) (x5 := x5) (ac := ac) (x7 := x7) (x8 := x8) (x9 := x9) (x10 := x10) (x11 := x11) (sp := sp) (ou := ou) (t1 := s1) (t2 := s2) (t3 := s3) (r := x3) (g := g) (σ := σ) (hR := hR) (hW := hW)) lk_X6_dark w_5_230 [0, 1, 2, 3, 4] rfl dX6_about_86 rfl rfl rfl rfl ⟨by decide, by decide⟩ (Nat.le_of_ble_eq_true rfl) ?_
              rintro _ _ ⟨ta_15, tb_16, tc_17, rfl, rfl⟩
              show ω [(hM, .inr (6, [.int (nI 0), .ref x1, .int (nI sz), .ref x3, .ref x4, .ref x5, .int (nI ac), .ref x7, .ref x8, .ref x9, .ref x10, .ref x11, .int (nI sp), .int (nI ou)])), (x9, .inl (eI E, 6, .inl ta_15)), (x10, .inl (eI E, 6, .inl tb_16)), (x11, .inl (eI E, 6, .inl tc_17)), (x3, .inl (eI E, 255, .inl g))] [(3, .int (nI k)), (2, .int (nI m)), (0, .ref hM), (1, .int (nI w))] [.int (nI (dkS σ 20))] 89
              refine r_goto C 121 dX6_about_89 (by decide) ?_
              exact RT.1 _ _ _ _ _ dX6_about_121 rfl rfl (⟨_, _, _, sv (by rw [aAbout, if_neg (by omega), if_pos (by omega)]), rfl⟩) rfl
          · refine r_aload_n C (i := 0) 2 dX6_about_67 rfl rfl ?_
            refine r_get C 0 3 uX6 rfl rfl (by decide) w_5_64 rfl dX6_about_68 ?_
            refine r_iload_n C (i := 1) 3 dX6_about_71 rfl rfl ?_
            refine r_iald (j := w) (v := aAbout σ w) C 4 rfl (by omega) (by decide) ((RepM_w hR (by omega)).trans (by unfold aAbout; exact (if_pos (show w < 3 by omega)).symm)) dX6_about_72 ?_
            refine r_goto C 121 dX6_about_73 (by decide) ?_
            exact RT.1 _ _ _ _ _ dX6_about_121 rfl rfl (⟨_, _, _, rfl, rfl⟩) rfl
        · refine r_iload_n C (i := 2) 1 dX6_about_40 rfl rfl ?_
          refine r_aload_n C (i := 0) 2 dX6_about_41 rfl rfl ?_
          refine r_iload_n C (i := 3) 0 dX6_about_42 rfl rfl ?_
          refine r_callV (rest := [.int (nI m)]) C (c_X6_isUsed (hM := hM) (rf := 0) (x1 := x1) (sz := sz) (x3 := x3) (x4 := x4) (x5 := x5) (ac := ac) (x7 := x7) (x8 := x8) (x9 := x9) (x10 := x10) (x11 := x11) (sp := sp) (ou := ou) (t1 := s1) (t2 := s2) (t3 := s3) (g := g) (σ := σ) (k := k) (hR := hR) (hW := hW) (hk := (by omega))) lk_X6_isUsed w_5_204 [0, 1, 2, 3, 4] rfl dX6_about_43 rfl rfl rfl rfl ⟨by decide, by decide⟩ (Nat.le_of_ble_eq_true rfl) ?_
          rintro _ _ ⟨ta_18, tb_19, tc_20, rfl, rfl⟩
          show ω [(hM, .inr (6, [.int (nI 0), .ref x1, .int (nI sz), .ref x3, .ref x4, .ref x5, .int (nI ac), .ref x7, .ref x8, .ref x9, .ref x10, .ref x11, .int (nI sp), .int (nI ou)])), (x9, .inl (eI E, 6, .inl ta_18)), (x10, .inl (eI E, 6, .inl tb_19)), (x11, .inl (eI E, 6, .inl tc_20)), (x3, .inl (eI E, 255, .inl g))] [(3, .int (nI k)), (2, .int (nI m)), (0, .ref hM), (1, .int (nI w))] [.int (bP (usd σ k)), .int (nI m)] 46
          refine r_if_eq C (y := 0) (c9 := ¬ (usd σ k)) 53 dX6_about_46 (by decide) z_eqB (fun h46_21 => ?_) (fun h46_21 => ?_)
          · refine r_iconst C dX6_about_53 ki_0 ?_
            refine r_iadd (v := nI (m + 0)) C dX6_about_54 (nI_add _ _) ?_
            refine r_istore_n C (lv' := [(2, .int (nI (m + 0))), (3, .int (nI k)), (0, .ref hM), (1, .int (nI w))]) dX6_about_55 rfl (by decide) rfl ?_
            refine r_iinc C (lv' := [(3, .int (nI (k + 1))), (2, .int (nI (m + 0))), (0, .ref hM), (1, .int (nI w))]) (v := nI (k + 1)) 1 dX6_about_56 rfl (v_inc _) (by decide) rfl ?_
            refine r_goto C 30 dX6_about_59 (by decide) ?_
            exact ih3 (k + 1) (m + 0) ta_18 tb_19 tc_20 (by omega) (by omega) (by rw [usN, hm, if_neg h46_21])
          · replace h46_21 : usd σ k := Decidable.not_not.mp h46_21
            refine r_iconst C dX6_about_49 ki_1 ?_
            refine r_goto C 54 dX6_about_50 (by decide) ?_
            refine r_iadd (v := nI (m + 1)) C dX6_about_54 (nI_add _ _) ?_
            refine r_istore_n C (lv' := [(2, .int (nI (m + 1))), (3, .int (nI k)), (0, .ref hM), (1, .int (nI w))]) dX6_about_55 rfl (by decide) rfl ?_
            refine r_iinc C (lv' := [(3, .int (nI (k + 1))), (2, .int (nI (m + 1))), (0, .ref hM), (1, .int (nI w))]) (v := nI (k + 1)) 1 dX6_about_56 rfl (v_inc _) (by decide) rfl ?_
            refine r_goto C 30 dX6_about_59 (by decide) ?_
            exact ih3 (k + 1) (m + 1) ta_18 tb_19 tc_20 (by omega) (by omega) (by rw [usN, hm, if_pos h46_21])
    exact loop30_2 _ 0 0 t1 t2 t3 (Nat.lt_succ_self _) (by omega) rfl
set_option maxRecDepth 100000 in
set_option maxHeartbeats 1000000 in
theorem c_X6_about__x1 {l : Launch} {E : Ev} {hM rf x1 sz x3 x4 x5 ac x7 x8 x9 x10 x11 sp ou : Nat} {g : Nat → Int32} {σ : Sg} (hR : RepM σ g) (hW : Wf σ) {w : Int32} (hx : ¬ vI w 7) : Ct l E yX6_about cX6_about 4 (some FieldType.int) 6 150 [.ref hM, .int w] [(hM, .inr (6, [.int (nI rf), .ref x1, .int (nI sz), .ref x3, .ref x4, .ref x5, .int (nI ac), .ref x7, .ref x8, .ref x9, .ref x10, .ref x11, .int (nI sp), .int (nI ou)])), (x3, .inl (eI E, 255, .inl g))] (fun v9 w9 => v9 = some (.int (nI 0)) ∧ w9 = [(hM, .inr (6, [.int (nI 1), .ref x1, .int (nI sz), .ref x3, .ref x4, .ref x5, .int (nI ac), .ref x7, .ref x8, .ref x9, .ref x10, .ref x11, .int (nI sp), .int (nI ou)])), (x3, .inl (eI E, 255, .inl g))]) := by
  have hwP := hW.P
  have hwA := hW.A
  have hwS := hW.S
  refine ct_of (by decide +kernel) (Nat.le_of_ble_eq_true rfl) (fun ω C RT => ?_)
  show ω [(hM, .inr (6, [.int (nI rf), .ref x1, .int (nI sz), .ref x3, .ref x4, .ref x5, .int (nI ac), .ref x7, .ref x8, .ref x9, .ref x10, .ref x11, .int (nI sp), .int (nI ou)])), (x3, .inl (eI E, 255, .inl g))] [(0, .ref hM), (1, .int w)] [] 0
  refine r_aload_n C (i := 0) 0 dX6_about_0 rfl rfl ?_
  refine r_iload_n C (i := 1) 1 dX6_about_1 rfl rfl ?_
  refine r_i2l (v := (w).toInt64) C dX6_about_2 rfl ?_
  refine r_lconst (v := lN 0) C dX6_about_3 (by decide +kernel) ?_
  refine r_ldc2 (v := lN 6) C dX6_about_4 w_5_203 ?_
  refine r_readS (rest := [.ref hM]) C (c_X6_in (v := (w).toInt64) (lw := lN 0) (hg := lN 6)) lk_X6_in w_5_113 [] dX6_about_7 rfl rfl rfl ⟨by decide, by decide⟩ (Nat.le_of_ble_eq_true rfl) (st' := [.int (bP (lN 0 ≤ (w).toInt64 ∧ (w).toInt64 ≤ lN 6)), .ref hM]) rfl ?_
  refine r_st (st' := [.int (bP (vI w (7))), .ref hM]) (by rw [bP_c (in_r (by omega))]) ?_
  refine r_if_eq C (y := 0) (c9 := ¬ (vI w (7))) 17 dX6_about_10 (by decide) z_eqB (fun h10_1 => ?_) (fun h10_1 => ?_)
  · refine r_iconst C dX6_about_17 ki_1 ?_
    refine r_callV (rest := []) C (c_X6_refused (hM := hM) (rf := rf) (x1 := x1) (sz := sz) (x3 := x3) (x4 := x4) (x5 := x5) (ac := ac) (x7 := x7) (x8 := x8) (x9 := x9) (x10 := x10) (x11 := x11) (sp := sp) (ou := ou) (w := 1) (hw := (by omega))) lk_X6_refused w_5_116 [0] rfl dX6_about_18 rfl rfl rfl rfl ⟨by decide, by decide⟩ (Nat.le_of_ble_eq_true rfl) ?_
    rintro _ _ ⟨rfl, rfl⟩
    show ω [(hM, .inr (6, [.int (nI 1), .ref x1, .int (nI sz), .ref x3, .ref x4, .ref x5, .int (nI ac), .ref x7, .ref x8, .ref x9, .ref x10, .ref x11, .int (nI sp), .int (nI ou)])), (x3, .inl (eI E, 255, .inl g))] [(0, .ref hM), (1, .int w)] [.int (bP (0 < 1))] 21
    refine r_if_eqF C (y := 0) (tgt := 26) dX6_about_21 (by decide) (fun z => ((by decide) : ¬ (¬ (0 < 1))) (z_eqB.mp z)) ?_
    refine r_iconst C dX6_about_24 ki_0 ?_
    exact RT.1 _ _ _ _ _ dX6_about_25 rfl rfl (⟨rfl, rfl⟩) rfl
  · replace h10_1 : vI w (7) := Decidable.not_not.mp h10_1
    refine r_iconst C dX6_about_13 ki_0 ?_
    refine r_goto C 18 dX6_about_14 (by decide) ?_
    first | (exfalso; omega) | (exfalso; simp_all; done)
set_option maxRecDepth 100000 in
set_option maxHeartbeats 1000000 in
theorem c_X6_played {l : Launch} {E : Ev} {hM rf x1 sz x3 x4 x5 ac x7 x8 x9 x10 x11 sp ou : Nat} {t1 t2 t3 : Nat → Int32} {g : Nat → Int32} {σ : Sg} (hR : RepM σ g) (hW : Wf σ) {n p : Nat} (hn : n < 20) (hp : p < sP σ) : Ct l E yX6_played cX6_played 3 (some FieldType.int) 4 99 [.ref hM, .int (nI n), .int (nI p)] [(hM, .inr (6, [.int (nI rf), .ref x1, .int (nI sz), .ref x3, .ref x4, .ref x5, .int (nI ac), .ref x7, .ref x8, .ref x9, .ref x10, .ref x11, .int (nI sp), .int (nI ou)])), (x9, .inl (eI E, 6, .inl t1)), (x10, .inl (eI E, 6, .inl t2)), (x11, .inl (eI E, 6, .inl t3)), (x3, .inl (eI E, 255, .inl g))] (fun v9 w9 => ∃ ta tb tc : Nat → Int32, v9 = some (.int (aPlayed σ n p)) ∧ w9 = [(hM, .inr (6, [.int (nI 0), .ref x1, .int (nI sz), .ref x3, .ref x4, .ref x5, .int (nI ac), .ref x7, .ref x8, .ref x9, .ref x10, .ref x11, .int (nI sp), .int (nI ou)])), (x9, .inl (eI E, 6, .inl ta)), (x10, .inl (eI E, 6, .inl tb)), (x11, .inl (eI E, 6, .inl tc)), (x3, .inl (eI E, 255, .inl g))]) := by
  have hwP := hW.P
  have hwA := hW.A
  have hwS := hW.S
  refine ct_of (by decide +kernel) (Nat.le_of_ble_eq_true rfl) (fun ω C RT => ?_)
  show ω [(hM, .inr (6, [.int (nI rf), .ref x1, .int (nI sz), .ref x3, .ref x4, .ref x5, .int (nI ac), .ref x7, .ref x8, .ref x9, .ref x10, .ref x11, .int (nI sp), .int (nI ou)])), (x9, .inl (eI E, 6, .inl t1)), (x10, .inl (eI E, 6, .inl t2)), (x11, .inl (eI E, 6, .inl t3)), (x3, .inl (eI E, 255, .inl g))] [(0, .ref hM), (1, .int (nI n)), (2, .int (nI p))] [] 0
  refine r_aload_n C (i := 0) 0 dX6_played_0 rfl rfl ?_
  refine r_iload_n C (i := 1) 1 dX6_played_1 rfl rfl ?_
  refine r_readS (rest := [.ref hM]) C (c_X6_isNight (i := n) (hi := (by omega))) lk_X6_isNight w_5_185 [] dX6_played_2 rfl rfl rfl ⟨by decide, by decide⟩ (Nat.le_of_ble_eq_true rfl) (st' := [.int (bP (n ≤ 19)), .ref hM]) rfl ?_
  refine r_if_eq C (y := 0) (c9 := ¬ (n ≤ 19)) 23 dX6_played_5 (by decide) z_eqB (fun h5_1 => ?_) (fun h5_1 => ?_)
  · refine r_iconst C dX6_played_23 ki_1 ?_
    first | (exfalso; omega) | (exfalso; simp_all; done)
  · replace h5_1 : n ≤ 19 := Decidable.not_not.mp h5_1
    refine r_aload_n C (i := 0) 0 dX6_played_8 rfl rfl ?_
    refine r_get C 0 3 uX6 rfl rfl (by decide) w_5_64 rfl dX6_played_9 ?_
    refine r_iload_n C (i := 2) 2 dX6_played_12 rfl rfl ?_
    refine r_readS (rest := [.ref hM]) C (c_X6_isPart (r := x3) (g := g) (σ := σ) (i := p) (hR := hR) (hW := hW) (hi := (by omega))) lk_X6_isPart w_5_151 [4] dX6_played_13 rfl rfl rfl ⟨by decide, by decide⟩ (Nat.le_of_ble_eq_true rfl) (st' := [.int (bP (p < sP σ)), .ref hM]) rfl ?_
    refine r_if_eq C (y := 0) (c9 := ¬ (p < sP σ)) 23 dX6_played_16 (by decide) z_eqB (fun h16_2 => ?_) (fun h16_2 => ?_)
    · refine r_iconst C dX6_played_23 ki_1 ?_
      first | (exfalso; omega) | (exfalso; simp_all; done)
    · replace h16_2 : p < sP σ := Decidable.not_not.mp h16_2
      refine r_iconst C dX6_played_19 ki_0 ?_
      refine r_goto C 24 dX6_played_20 (by decide) ?_
      refine r_callV (rest := []) C (c_X6_refused (hM := hM) (rf := rf) (x1 := x1) (sz := sz) (x3 := x3) (x4 := x4) (x5 := x5) (ac := ac) (x7 := x7) (x8 := x8) (x9 := x9) (x10 := x10) (x11 := x11) (sp := sp) (ou := ou) (w := 0) (hw := (by omega))) lk_X6_refused w_5_116 [0] rfl dX6_played_24 rfl rfl rfl rfl ⟨by decide, by decide⟩ (Nat.le_of_ble_eq_true rfl) ?_
      rintro _ _ ⟨rfl, rfl⟩
      show ω [(hM, .inr (6, [.int (nI 0), .ref x1, .int (nI sz), .ref x3, .ref x4, .ref x5, .int (nI ac), .ref x7, .ref x8, .ref x9, .ref x10, .ref x11, .int (nI sp), .int (nI ou)])), (x9, .inl (eI E, 6, .inl t1)), (x10, .inl (eI E, 6, .inl t2)), (x11, .inl (eI E, 6, .inl t3)), (x3, .inl (eI E, 255, .inl g))] [(0, .ref hM), (1, .int (nI n)), (2, .int (nI p))] [.int (bP (0 < 0))] 27
      refine r_if_eqT C (y := 0) 32 dX6_played_27 (by decide) (z_eqB.mpr (by decide)) ?_
      refine r_aload_n C (i := 0) 0 dX6_played_32 rfl rfl ?_
      refine r_aload_n C (i := 0) 0 dX6_played_33 rfl rfl ?_
      refine r_get C 0 3 uX6 rfl rfl (by decide) w_5_64 rfl dX6_played_34 ?_
      refine r_iload_n C (i := 1) 1 dX6_played_37 rfl rfl ?_
      refine r_callV (rest := []) C (c_X6_goThrough (hM := hM) (rf := 0) (x1 := x1) (sz := sz) (x3 := x3) (x4 := x4) (x5 := x5) (ac := ac) (x7 := x7) (x8 := x8) (x9 := x9) (x10 := x10) (x11 := x11) (sp := sp) (ou := ou) (t1 := t1) (t2 := t2) (t3 := t3) (r := x3) (g := g) (σ := σ) (n := n) (hR := hR) (hW := hW) (hn := (by omega))) lk_X6_goThrough w_5_211 [0, 1, 2, 3, 4] rfl dX6_played_38 rfl rfl rfl rfl ⟨by decide, by decide⟩ (Nat.le_of_ble_eq_true rfl) ?_
      rintro _ _ ⟨ta_3, tb_4, tc_5, rfl, rfl, hEv_6⟩
      show ω [(hM, .inr (6, [.int (nI 0), .ref x1, .int (nI sz), .ref x3, .ref x4, .ref x5, .int (nI ac), .ref x7, .ref x8, .ref x9, .ref x10, .ref x11, .int (nI sp), .int (nI ou)])), (x9, .inl (eI E, 6, .inl ta_3)), (x10, .inl (eI E, 6, .inl tb_4)), (x11, .inl (eI E, 6, .inl tc_5)), (x3, .inl (eI E, 255, .inl g))] [(0, .ref hM), (1, .int (nI n)), (2, .int (nI p))] [.int (bP (dk σ n = 1))] 41
      refine r_if_eq C (y := 0) (c9 := ¬ (dk σ n = 1)) 48 dX6_played_41 (by decide) z_eqB (fun h41_7 => ?_) (fun h41_7 => ?_)
      · refine r_aload_n C (i := 0) 0 dX6_played_48 rfl rfl ?_
        refine r_get C 0 9 uX6 rfl rfl (by decide) w_5_70 rfl dX6_played_49 ?_
        refine r_iload_n C (i := 2) 2 dX6_played_52 rfl rfl ?_
        refine r_iald (j := p) (v := mI (T σ n p)) C 1 rfl (by omega) (by decide) ((hEv_6 _ hp).1) dX6_played_53 ?_
        exact RT.1 _ _ _ _ _ dX6_played_54 rfl rfl (⟨_, _, _, sv (by rw [aPlayed, if_neg h41_7]), rfl⟩) rfl
      · replace h41_7 : dk σ n = 1 := Decidable.not_not.mp h41_7
        refine r_iconst C dX6_played_44 ki_m1 ?_
        refine r_goto C 54 dX6_played_45 (by decide) ?_
        exact RT.1 _ _ _ _ _ dX6_played_54 rfl rfl (⟨_, _, _, sv (by rw [aPlayed, if_pos h41_7]), rfl⟩) rfl
set_option maxRecDepth 100000 in
set_option maxHeartbeats 1000000 in
theorem c_X6_played__x1 {l : Launch} {E : Ev} {hM rf x1 sz x3 x4 x5 ac x7 x8 x9 x10 x11 sp ou : Nat} {g : Nat → Int32} {σ : Sg} (hR : RepM σ g) (hW : Wf σ) {n p : Int32} (hx : ¬ (vI n 20 ∧ vI p (sP σ))) : Ct l E yX6_played cX6_played 3 (some FieldType.int) 4 99 [.ref hM, .int n, .int p] [(hM, .inr (6, [.int (nI rf), .ref x1, .int (nI sz), .ref x3, .ref x4, .ref x5, .int (nI ac), .ref x7, .ref x8, .ref x9, .ref x10, .ref x11, .int (nI sp), .int (nI ou)])), (x3, .inl (eI E, 255, .inl g))] (fun v9 w9 => v9 = some (.int (nI 0)) ∧ w9 = [(hM, .inr (6, [.int (nI 1), .ref x1, .int (nI sz), .ref x3, .ref x4, .ref x5, .int (nI ac), .ref x7, .ref x8, .ref x9, .ref x10, .ref x11, .int (nI sp), .int (nI ou)])), (x3, .inl (eI E, 255, .inl g))]) := by
  have hwP := hW.P
  have hwA := hW.A
  have hwS := hW.S
  refine ct_of (by decide +kernel) (Nat.le_of_ble_eq_true rfl) (fun ω C RT => ?_)
  show ω [(hM, .inr (6, [.int (nI rf), .ref x1, .int (nI sz), .ref x3, .ref x4, .ref x5, .int (nI ac), .ref x7, .ref x8, .ref x9, .ref x10, .ref x11, .int (nI sp), .int (nI ou)])), (x3, .inl (eI E, 255, .inl g))] [(0, .ref hM), (1, .int n), (2, .int p)] [] 0
  refine r_aload_n C (i := 0) 0 dX6_played_0 rfl rfl ?_
  refine r_iload_n C (i := 1) 1 dX6_played_1 rfl rfl ?_
  refine r_readS (rest := [.ref hM]) C (c_X6_isNight__r (x := n) ) lk_X6_isNight w_5_185 [] dX6_played_2 rfl rfl rfl ⟨by decide, by decide⟩ (Nat.le_of_ble_eq_true rfl) (st' := [.int (bP (vI n 20)), .ref hM]) rfl ?_
  refine r_if_eq C (y := 0) (c9 := ¬ (vI n 20)) 23 dX6_played_5 (by decide) z_eqB (fun h5_1 => ?_) (fun h5_1 => ?_)
  · refine r_iconst C dX6_played_23 ki_1 ?_
    refine r_callV (rest := []) C (c_X6_refused (hM := hM) (rf := rf) (x1 := x1) (sz := sz) (x3 := x3) (x4 := x4) (x5 := x5) (ac := ac) (x7 := x7) (x8 := x8) (x9 := x9) (x10 := x10) (x11 := x11) (sp := sp) (ou := ou) (w := 1) (hw := (by omega))) lk_X6_refused w_5_116 [0] rfl dX6_played_24 rfl rfl rfl rfl ⟨by decide, by decide⟩ (Nat.le_of_ble_eq_true rfl) ?_
    rintro _ _ ⟨rfl, rfl⟩
    show ω [(hM, .inr (6, [.int (nI 1), .ref x1, .int (nI sz), .ref x3, .ref x4, .ref x5, .int (nI ac), .ref x7, .ref x8, .ref x9, .ref x10, .ref x11, .int (nI sp), .int (nI ou)])), (x3, .inl (eI E, 255, .inl g))] [(0, .ref hM), (1, .int n), (2, .int p)] [.int (bP (0 < 1))] 27
    refine r_if_eqF C (y := 0) (tgt := 32) dX6_played_27 (by decide) (fun z => ((by decide) : ¬ (¬ (0 < 1))) (z_eqB.mp z)) ?_
    refine r_iconst C dX6_played_30 ki_0 ?_
    exact RT.1 _ _ _ _ _ dX6_played_31 rfl rfl (⟨rfl, rfl⟩) rfl
  · replace h5_1 : vI n 20 := Decidable.not_not.mp h5_1
    refine r_aload_n C (i := 0) 0 dX6_played_8 rfl rfl ?_
    refine r_get C 0 3 uX6 rfl rfl (by decide) w_5_64 rfl dX6_played_9 ?_
    refine r_iload_n C (i := 2) 2 dX6_played_12 rfl rfl ?_
    refine r_readS (rest := [.ref hM]) C (c_X6_isPart__r (r := x3) (g := g) (σ := σ) (x := p) (hR := hR) (hW := hW)) lk_X6_isPart w_5_151 [1] dX6_played_13 rfl rfl rfl ⟨by decide, by decide⟩ (Nat.le_of_ble_eq_true rfl) (st' := [.int (bP (vI p (sP σ))), .ref hM]) rfl ?_
    refine r_if_eq C (y := 0) (c9 := ¬ (vI p (sP σ))) 23 dX6_played_16 (by decide) z_eqB (fun h16_2 => ?_) (fun h16_2 => ?_)
    · refine r_iconst C dX6_played_23 ki_1 ?_
      refine r_callV (rest := []) C (c_X6_refused (hM := hM) (rf := rf) (x1 := x1) (sz := sz) (x3 := x3) (x4 := x4) (x5 := x5) (ac := ac) (x7 := x7) (x8 := x8) (x9 := x9) (x10 := x10) (x11 := x11) (sp := sp) (ou := ou) (w := 1) (hw := (by omega))) lk_X6_refused w_5_116 [0] rfl dX6_played_24 rfl rfl rfl rfl ⟨by decide, by decide⟩ (Nat.le_of_ble_eq_true rfl) ?_
      rintro _ _ ⟨rfl, rfl⟩
      show ω [(hM, .inr (6, [.int (nI 1), .ref x1, .int (nI sz), .ref x3, .ref x4, .ref x5, .int (nI ac), .ref x7, .ref x8, .ref x9, .ref x10, .ref x11, .int (nI sp), .int (nI ou)])), (x3, .inl (eI E, 255, .inl g))] [(0, .ref hM), (1, .int n), (2, .int p)] [.int (bP (0 < 1))] 27
      refine r_if_eqF C (y := 0) (tgt := 32) dX6_played_27 (by decide) (fun z => ((by decide) : ¬ (¬ (0 < 1))) (z_eqB.mp z)) ?_
      refine r_iconst C dX6_played_30 ki_0 ?_
      exact RT.1 _ _ _ _ _ dX6_played_31 rfl rfl (⟨rfl, rfl⟩) rfl
    · replace h16_2 : vI p (sP σ) := Decidable.not_not.mp h16_2
      refine r_iconst C dX6_played_19 ki_0 ?_
      refine r_goto C 24 dX6_played_20 (by decide) ?_
      first | (exfalso; omega) | (exfalso; simp_all; done)
set_option maxRecDepth 100000 in
set_option maxHeartbeats 1000000 in
theorem c_X6_bill {l : Launch} {E : Ev} {hM rf x1 sz x3 x4 x5 ac x7 x8 x9 x10 x11 sp ou : Nat} {t1 t2 t3 : Nat → Int32} {g : Nat → Int32} {σ : Sg} (hR : RepM σ g) (hW : Wf σ) {n p w : Nat} (hn : n < 20) (hp : p < sP σ) (hw : w < 4) : Ct l E yX6_bill cX6_bill 6 (some FieldType.int) 4 99 [.ref hM, .int (nI n), .int (nI p), .int (nI w)] [(hM, .inr (6, [.int (nI rf), .ref x1, .int (nI sz), .ref x3, .ref x4, .ref x5, .int (nI ac), .ref x7, .ref x8, .ref x9, .ref x10, .ref x11, .int (nI sp), .int (nI ou)])), (x9, .inl (eI E, 6, .inl t1)), (x10, .inl (eI E, 6, .inl t2)), (x11, .inl (eI E, 6, .inl t3)), (x3, .inl (eI E, 255, .inl g))] (fun v9 w9 => ∃ ta tb tc : Nat → Int32, v9 = some (.int (aBill σ n p w)) ∧ w9 = [(hM, .inr (6, [.int (nI 0), .ref x1, .int (nI sz), .ref x3, .ref x4, .ref x5, .int (nI ac), .ref x7, .ref x8, .ref x9, .ref x10, .ref x11, .int (nI sp), .int (nI ou)])), (x9, .inl (eI E, 6, .inl ta)), (x10, .inl (eI E, 6, .inl tb)), (x11, .inl (eI E, 6, .inl tc)), (x3, .inl (eI E, 255, .inl g))]) := by
  have hwP := hW.P
  have hwA := hW.A
  have hwS := hW.S
  refine ct_of (by decide +kernel) (Nat.le_of_ble_eq_true rfl) (fun ω C RT => ?_)
  show ω [(hM, .inr (6, [.int (nI rf), .ref x1, .int (nI sz), .ref x3, .ref x4, .ref x5, .int (nI ac), .ref x7, .ref x8, .ref x9, .ref x10, .ref x11, .int (nI sp), .int (nI ou)])), (x9, .inl (eI E, 6, .inl t1)), (x10, .inl (eI E, 6, .inl t2)), (x11, .inl (eI E, 6, .inl t3)), (x3, .inl (eI E, 255, .inl g))] [(0, .ref hM), (1, .int (nI n)), (2, .int (nI p)), (3, .int (nI w))] [] 0
  refine r_aload_n C (i := 0) 0 dX6_bill_0 rfl rfl ?_
  refine r_iload_n C (i := 1) 1 dX6_bill_1 rfl rfl ?_
  refine r_readS (rest := [.ref hM]) C (c_X6_isNight (i := n) (hi := (by omega))) lk_X6_isNight w_5_185 [] dX6_bill_2 rfl rfl rfl ⟨by decide, by decide⟩ (Nat.le_of_ble_eq_true rfl) (st' := [.int (bP (n ≤ 19)), .ref hM]) rfl ?_
  refine r_if_eq C (y := 0) (c9 := ¬ (n ≤ 19)) 19 dX6_bill_5 (by decide) z_eqB (fun h5_1 => ?_) (fun h5_1 => ?_)
  · refine r_iconst C dX6_bill_19 ki_1 ?_
    refine r_goto C 40 dX6_bill_20 (by decide) ?_
    first | (exfalso; omega) | (exfalso; simp_all; done)
  · replace h5_1 : n ≤ 19 := Decidable.not_not.mp h5_1
    refine r_aload_n C (i := 0) 0 dX6_bill_8 rfl rfl ?_
    refine r_get C 0 3 uX6 rfl rfl (by decide) w_5_64 rfl dX6_bill_9 ?_
    refine r_iload_n C (i := 2) 2 dX6_bill_12 rfl rfl ?_
    refine r_readS (rest := [.ref hM]) C (c_X6_isPart (r := x3) (g := g) (σ := σ) (i := p) (hR := hR) (hW := hW) (hi := (by omega))) lk_X6_isPart w_5_151 [4] dX6_bill_13 rfl rfl rfl ⟨by decide, by decide⟩ (Nat.le_of_ble_eq_true rfl) (st' := [.int (bP (p < sP σ)), .ref hM]) rfl ?_
    refine r_if_ne C (y := 0) (c9 := p < sP σ) 23 dX6_bill_16 (by decide) z_neB (fun h16_2 => ?_) (fun h16_2 => ?_)
    · refine r_iload_n C (i := 3) 3 dX6_bill_23 rfl rfl ?_
      refine r_i2l (v := lN w) C dX6_bill_24 (v_i2l (by omega)) ?_
      refine r_lconst (v := lN 0) C dX6_bill_25 (by decide +kernel) ?_
      refine r_ldc2 (v := lN 3) C dX6_bill_26 w_6_20 ?_
      refine r_readS (rest := [.ref hM]) C (c_X6_in (v := lN w) (lw := lN 0) (hg := lN 3)) lk_X6_in w_5_113 [] dX6_bill_29 rfl rfl rfl ⟨by decide, by decide⟩ (Nat.le_of_ble_eq_true rfl) (st' := [.int (bP (lN 0 ≤ lN w ∧ lN w ≤ lN 3)), .ref hM]) rfl ?_
      refine r_st (st' := [.int (bP (w ≤ 3)), .ref hM]) (by rw [bP_c (in_N (by omega) (by omega))]) ?_
      refine r_if_eq C (y := 0) (c9 := ¬ (w ≤ 3)) 39 dX6_bill_32 (by decide) z_eqB (fun h32_3 => ?_) (fun h32_3 => ?_)
      · refine r_iconst C dX6_bill_39 ki_2 ?_
        first | (exfalso; omega) | (exfalso; simp_all; done)
      · replace h32_3 : w ≤ 3 := Decidable.not_not.mp h32_3
        refine r_iconst C dX6_bill_35 ki_0 ?_
        refine r_goto C 40 dX6_bill_36 (by decide) ?_
        refine r_callV (rest := []) C (c_X6_refused (hM := hM) (rf := rf) (x1 := x1) (sz := sz) (x3 := x3) (x4 := x4) (x5 := x5) (ac := ac) (x7 := x7) (x8 := x8) (x9 := x9) (x10 := x10) (x11 := x11) (sp := sp) (ou := ou) (w := 0) (hw := (by omega))) lk_X6_refused w_5_116 [0] rfl dX6_bill_40 rfl rfl rfl rfl ⟨by decide, by decide⟩ (Nat.le_of_ble_eq_true rfl) ?_
        rintro _ _ ⟨rfl, rfl⟩
        show ω [(hM, .inr (6, [.int (nI 0), .ref x1, .int (nI sz), .ref x3, .ref x4, .ref x5, .int (nI ac), .ref x7, .ref x8, .ref x9, .ref x10, .ref x11, .int (nI sp), .int (nI ou)])), (x9, .inl (eI E, 6, .inl t1)), (x10, .inl (eI E, 6, .inl t2)), (x11, .inl (eI E, 6, .inl t3)), (x3, .inl (eI E, 255, .inl g))] [(0, .ref hM), (1, .int (nI n)), (2, .int (nI p)), (3, .int (nI w))] [.int (bP (0 < 0))] 43
        refine r_if_eqT C (y := 0) 48 dX6_bill_43 (by decide) (z_eqB.mpr (by decide)) ?_
        refine r_aload_n C (i := 0) 0 dX6_bill_48 rfl rfl ?_
        refine r_aload_n C (i := 0) 0 dX6_bill_49 rfl rfl ?_
        refine r_get C 0 3 uX6 rfl rfl (by decide) w_5_64 rfl dX6_bill_50 ?_
        refine r_iload_n C (i := 1) 1 dX6_bill_53 rfl rfl ?_
        refine r_callV (rest := []) C (c_X6_goThrough (hM := hM) (rf := 0) (x1 := x1) (sz := sz) (x3 := x3) (x4 := x4) (x5 := x5) (ac := ac) (x7 := x7) (x8 := x8) (x9 := x9) (x10 := x10) (x11 := x11) (sp := sp) (ou := ou) (t1 := t1) (t2 := t2) (t3 := t3) (r := x3) (g := g) (σ := σ) (n := n) (hR := hR) (hW := hW) (hn := (by omega))) lk_X6_goThrough w_5_211 [0, 1, 2, 3, 4] rfl dX6_bill_54 rfl rfl rfl rfl ⟨by decide, by decide⟩ (Nat.le_of_ble_eq_true rfl) ?_
        rintro _ _ ⟨ta_4, tb_5, tc_6, rfl, rfl, hEv_7⟩
        show ω [(hM, .inr (6, [.int (nI 0), .ref x1, .int (nI sz), .ref x3, .ref x4, .ref x5, .int (nI ac), .ref x7, .ref x8, .ref x9, .ref x10, .ref x11, .int (nI sp), .int (nI ou)])), (x9, .inl (eI E, 6, .inl ta_4)), (x10, .inl (eI E, 6, .inl tb_5)), (x11, .inl (eI E, 6, .inl tc_6)), (x3, .inl (eI E, 255, .inl g))] [(0, .ref hM), (1, .int (nI n)), (2, .int (nI p)), (3, .int (nI w))] [.int (bP (dk σ n = 1))] 57
        refine r_pop C dX6_bill_57 rfl ?_
        refine r_iconst C dX6_bill_58 ki_0 ?_
        refine r_istore C (lv' := [(4, .int (nI 0)), (0, .ref hM), (1, .int (nI n)), (2, .int (nI p)), (3, .int (nI w))]) dX6_bill_59 (by decide) rfl ?_
        refine r_iconst C dX6_bill_61 ki_0 ?_
        refine r_istore C (lv' := [(5, .int (nI 0)), (4, .int (nI 0)), (0, .ref hM), (1, .int (nI n)), (2, .int (nI p)), (3, .int (nI w))]) dX6_bill_62 (by decide) rfl ?_
        have loop64_8 : ∀ (dd9 : Nat) (k : Nat) (m : Nat), sS σ - k < dd9 → (k ≤ sS σ) → (m = slC9 σ n p k) → ω [(hM, .inr (6, [.int (nI 0), .ref x1, .int (nI sz), .ref x3, .ref x4, .ref x5, .int (nI ac), .ref x7, .ref x8, .ref x9, .ref x10, .ref x11, .int (nI sp), .int (nI ou)])), (x9, .inl (eI E, 6, .inl ta_4)), (x10, .inl (eI E, 6, .inl tb_5)), (x11, .inl (eI E, 6, .inl tc_6)), (x3, .inl (eI E, 255, .inl g))] [(5, .int (nI k)), (4, .int (nI m)), (0, .ref hM), (1, .int (nI n)), (2, .int (nI p)), (3, .int (nI w))] [] 64 := by
          intro dd9
          induction dd9 with
          | zero => intro k m hd; exact absurd hd (Nat.not_lt_zero _)
          | succ dd9 ih9 =>
            intro k m hd hk hm
            have hml := slC9_le σ n p k
            refine r_iload C (i := 5) 0 dX6_bill_64 rfl ?_
            refine r_aload_n C (i := 0) 2 dX6_bill_66 rfl rfl ?_
            refine r_get C 0 3 uX6 rfl rfl (by decide) w_5_64 rfl dX6_bill_67 ?_
            refine r_iconst C dX6_bill_70 ki_2 ?_
            refine r_iald (j := 2) (v := nI (sS σ)) C 4 rfl (by omega) (by decide) hR.S dX6_bill_71 ?_
            refine r_icmp_ge C (c9 := sS σ ≤ k) 119 dX6_bill_72 (by decide) (c_leNN (by omega) (by omega)) (fun h72_10 => ?_) (fun h72_10 => ?_)
            · refine r_iload_n C (i := 3) 5 dX6_bill_119 rfl rfl ?_
              refine r_if_ne C (y := 0) (c9 := w ≠ 0) 135 dX6_bill_120 (by decide) (z_neN (by omega)) (fun h120_11 => ?_) (fun h120_11 => ?_)
              · refine r_iload_n C (i := 3) 5 dX6_bill_135 rfl rfl ?_
                refine r_iconst C dX6_bill_136 ki_1 ?_
                refine r_icmp_ne C (c9 := w ≠ 1) 149 dX6_bill_137 (by decide) (c_neNN (by omega) (by omega)) (fun h137_12 => ?_) (fun h137_12 => ?_)
                · refine r_iload_n C (i := 3) 5 dX6_bill_149 rfl rfl ?_
                  refine r_iconst C dX6_bill_150 ki_2 ?_
                  refine r_icmp_ne C (c9 := w ≠ 2) 163 dX6_bill_151 (by decide) (c_neNN (by omega) (by omega)) (fun h151_13 => ?_) (fun h151_13 => ?_)
                  · refine r_iload C (i := 4) 1 dX6_bill_163 rfl ?_
                    exact RT.1 _ _ _ _ _ dX6_bill_165 rfl rfl (⟨_, _, _, sv (by rw [aBill, if_neg (by omega), if_neg (by omega), if_neg (by omega), hm, (by omega : k = sS σ)]), rfl⟩) rfl
                  · refine r_aload_n C (i := 0) 2 dX6_bill_154 rfl rfl ?_
                    refine r_get C 0 10 uX6 rfl rfl (by decide) w_5_71 rfl dX6_bill_155 ?_
                    refine r_iload_n C (i := 2) 4 dX6_bill_158 rfl rfl ?_
                    refine r_iald (j := p) (v := nI (Wy σ n p)) C 2 rfl (by omega) (by decide) ((hEv_7 _ hp).2.1) dX6_bill_159 ?_
                    refine r_goto C 165 dX6_bill_160 (by decide) ?_
                    exact RT.1 _ _ _ _ _ dX6_bill_165 rfl rfl (⟨_, _, _, sv (by rw [aBill, if_neg (by omega), if_neg (by omega), if_pos (by omega)]), rfl⟩) rfl
                · refine r_aload_n C (i := 0) 2 dX6_bill_140 rfl rfl ?_
                  refine r_get C 0 9 uX6 rfl rfl (by decide) w_5_70 rfl dX6_bill_141 ?_
                  refine r_iload_n C (i := 2) 4 dX6_bill_144 rfl rfl ?_
                  refine r_iald (j := p) (v := mI (T σ n p)) C 1 rfl (by omega) (by decide) ((hEv_7 _ hp).1) dX6_bill_145 ?_
                  refine r_goto C 165 dX6_bill_146 (by decide) ?_
                  exact RT.1 _ _ _ _ _ dX6_bill_165 rfl rfl (⟨_, _, _, sv (by rw [aBill, if_neg (by omega), if_pos (by omega)]), rfl⟩) rfl
              · refine r_aload_n C (i := 0) 2 dX6_bill_123 rfl rfl ?_
                refine r_get C 0 3 uX6 rfl rfl (by decide) w_5_64 rfl dX6_bill_124 ?_
                refine r_iload_n C (i := 1) 3 dX6_bill_127 rfl rfl ?_
                refine r_iload_n C (i := 2) 4 dX6_bill_128 rfl rfl ?_
                refine r_readS (rest := []) C (c_X6_principal (r := x3) (g := g) (σ := σ) (n := n) (p := p) (hR := hR) (hW := hW) (hn := (by omega)) (hp := (by omega))) lk_X6_principal w_5_160 [4] dX6_bill_129 rfl rfl rfl ⟨by decide, by decide⟩ (Nat.le_of_ble_eq_true rfl) (st' := [.int (mI (sR σ p n))]) rfl ?_
                refine r_goto C 165 dX6_bill_132 (by decide) ?_
                exact RT.1 _ _ _ _ _ dX6_bill_165 rfl rfl (⟨_, _, _, sv (by rw [aBill, if_pos (by omega)]), rfl⟩) rfl
            · have hl := hW.L (show k < sS σ by omega)
              refine r_iload C (i := 4) 1 dX6_bill_75 rfl ?_
              refine r_aload_n C (i := 0) 2 dX6_bill_77 rfl rfl ?_
              refine r_get C 0 3 uX6 rfl rfl (by decide) w_5_64 rfl dX6_bill_78 ?_
              refine r_iload C (i := 5) 0 dX6_bill_81 rfl ?_
              refine r_iconst C dX6_bill_83 ki_0 ?_
              refine r_readS (rest := [.int (nI m)]) C (c_X6_slipOf (r := x3) (g := g) (σ := σ) (k := k) (j := 0) (hR := hR) (hW := hW) (hk := (by omega)) (hj := (by omega))) lk_X6_slipOf w_5_208 [4] dX6_bill_84 rfl rfl rfl ⟨by decide, by decide⟩ (Nat.le_of_ble_eq_true rfl) (st' := [.int (nI (sL σ k 0)), .int (nI m)]) rfl ?_
              refine r_iload_n C (i := 1) 3 dX6_bill_87 rfl rfl ?_
              refine r_icmp_ne C (c9 := sL σ k 0 ≠ n) 109 dX6_bill_88 (by decide) (c_neNN (by omega) (by omega)) (fun h88_14 => ?_) (fun h88_14 => ?_)
              · refine r_iconst C dX6_bill_109 ki_0 ?_
                refine r_iadd (v := nI (m + 0)) C dX6_bill_110 (nI_add _ _) ?_
                refine r_istore C (lv' := [(4, .int (nI (m + 0))), (5, .int (nI k)), (0, .ref hM), (1, .int (nI n)), (2, .int (nI p)), (3, .int (nI w))]) dX6_bill_111 (by decide) rfl ?_
                refine r_iinc C (lv' := [(5, .int (nI (k + 1))), (4, .int (nI (m + 0))), (0, .ref hM), (1, .int (nI n)), (2, .int (nI p)), (3, .int (nI w))]) (v := nI (k + 1)) 1 dX6_bill_113 rfl (v_inc _) (by decide) rfl ?_
                refine r_goto C 64 dX6_bill_116 (by decide) ?_
                exact ih9 (k + 1) (m + 0) (by omega) (by omega) (by rw [slC9, hm, if_neg (fun z => h88_14 z.1)])
              · refine r_aload_n C (i := 0) 2 dX6_bill_91 rfl rfl ?_
                refine r_get C 0 3 uX6 rfl rfl (by decide) w_5_64 rfl dX6_bill_92 ?_
                refine r_iload C (i := 5) 0 dX6_bill_95 rfl ?_
                refine r_iconst C dX6_bill_97 ki_1 ?_
                refine r_readS (rest := [.int (nI m)]) C (c_X6_slipOf (r := x3) (g := g) (σ := σ) (k := k) (j := 1) (hR := hR) (hW := hW) (hk := (by omega)) (hj := (by omega))) lk_X6_slipOf w_5_208 [4] dX6_bill_98 rfl rfl rfl ⟨by decide, by decide⟩ (Nat.le_of_ble_eq_true rfl) (st' := [.int (nI (sL σ k 1)), .int (nI m)]) rfl ?_
                refine r_iload_n C (i := 2) 4 dX6_bill_101 rfl rfl ?_
                refine r_icmp_ne C (c9 := sL σ k 1 ≠ p) 109 dX6_bill_102 (by decide) (c_neNN (by omega) (by omega)) (fun h102_15 => ?_) (fun h102_15 => ?_)
                · refine r_iconst C dX6_bill_109 ki_0 ?_
                  refine r_iadd (v := nI (m + 0)) C dX6_bill_110 (nI_add _ _) ?_
                  refine r_istore C (lv' := [(4, .int (nI (m + 0))), (5, .int (nI k)), (0, .ref hM), (1, .int (nI n)), (2, .int (nI p)), (3, .int (nI w))]) dX6_bill_111 (by decide) rfl ?_
                  refine r_iinc C (lv' := [(5, .int (nI (k + 1))), (4, .int (nI (m + 0))), (0, .ref hM), (1, .int (nI n)), (2, .int (nI p)), (3, .int (nI w))]) (v := nI (k + 1)) 1 dX6_bill_113 rfl (v_inc _) (by decide) rfl ?_
                  refine r_goto C 64 dX6_bill_116 (by decide) ?_
                  exact ih9 (k + 1) (m + 0) (by omega) (by omega) (by rw [slC9, hm, if_neg (fun z => h102_15 z.2)])
                · refine r_iconst C dX6_bill_105 ki_1 ?_
                  refine r_goto C 110 dX6_bill_106 (by decide) ?_
                  refine r_iadd (v := nI (m + 1)) C dX6_bill_110 (nI_add _ _) ?_
                  refine r_istore C (lv' := [(4, .int (nI (m + 1))), (5, .int (nI k)), (0, .ref hM), (1, .int (nI n)), (2, .int (nI p)), (3, .int (nI w))]) dX6_bill_111 (by decide) rfl ?_
                  refine r_iinc C (lv' := [(5, .int (nI (k + 1))), (4, .int (nI (m + 1))), (0, .ref hM), (1, .int (nI n)), (2, .int (nI p)), (3, .int (nI w))]) (v := nI (k + 1)) 1 dX6_bill_113 rfl (v_inc _) (by decide) rfl ?_
                  refine r_goto C 64 dX6_bill_116 (by decide) ?_
                  exact ih9 (k + 1) (m + 1) (by omega) (by omega) (by rw [slC9, hm, if_pos ⟨by omega, by omega⟩])
        exact loop64_8 _ 0 0 (Nat.lt_succ_self _) (by omega) rfl
    · refine r_iconst C dX6_bill_19 ki_1 ?_
      refine r_goto C 40 dX6_bill_20 (by decide) ?_
      first | (exfalso; omega) | (exfalso; simp_all; done)
set_option maxRecDepth 100000 in
set_option maxHeartbeats 1000000 in
theorem c_X6_bill__x1 {l : Launch} {E : Ev} {hM rf x1 sz x3 x4 x5 ac x7 x8 x9 x10 x11 sp ou : Nat} {g : Nat → Int32} {σ : Sg} (hR : RepM σ g) (hW : Wf σ) {n p w : Int32} (hx : ¬ (vI n 20 ∧ vI p (sP σ))) : Ct l E yX6_bill cX6_bill 6 (some FieldType.int) 4 99 [.ref hM, .int n, .int p, .int w] [(hM, .inr (6, [.int (nI rf), .ref x1, .int (nI sz), .ref x3, .ref x4, .ref x5, .int (nI ac), .ref x7, .ref x8, .ref x9, .ref x10, .ref x11, .int (nI sp), .int (nI ou)])), (x3, .inl (eI E, 255, .inl g))] (fun v9 w9 => v9 = some (.int (nI 0)) ∧ w9 = [(hM, .inr (6, [.int (nI 1), .ref x1, .int (nI sz), .ref x3, .ref x4, .ref x5, .int (nI ac), .ref x7, .ref x8, .ref x9, .ref x10, .ref x11, .int (nI sp), .int (nI ou)])), (x3, .inl (eI E, 255, .inl g))]) := by
  have hwP := hW.P
  have hwA := hW.A
  have hwS := hW.S
  refine ct_of (by decide +kernel) (Nat.le_of_ble_eq_true rfl) (fun ω C RT => ?_)
  show ω [(hM, .inr (6, [.int (nI rf), .ref x1, .int (nI sz), .ref x3, .ref x4, .ref x5, .int (nI ac), .ref x7, .ref x8, .ref x9, .ref x10, .ref x11, .int (nI sp), .int (nI ou)])), (x3, .inl (eI E, 255, .inl g))] [(0, .ref hM), (1, .int n), (2, .int p), (3, .int w)] [] 0
  refine r_aload_n C (i := 0) 0 dX6_bill_0 rfl rfl ?_
  refine r_iload_n C (i := 1) 1 dX6_bill_1 rfl rfl ?_
  refine r_readS (rest := [.ref hM]) C (c_X6_isNight__r (x := n) ) lk_X6_isNight w_5_185 [] dX6_bill_2 rfl rfl rfl ⟨by decide, by decide⟩ (Nat.le_of_ble_eq_true rfl) (st' := [.int (bP (vI n 20)), .ref hM]) rfl ?_
  refine r_if_eq C (y := 0) (c9 := ¬ (vI n 20)) 19 dX6_bill_5 (by decide) z_eqB (fun h5_1 => ?_) (fun h5_1 => ?_)
  · refine r_iconst C dX6_bill_19 ki_1 ?_
    refine r_goto C 40 dX6_bill_20 (by decide) ?_
    refine r_callV (rest := []) C (c_X6_refused (hM := hM) (rf := rf) (x1 := x1) (sz := sz) (x3 := x3) (x4 := x4) (x5 := x5) (ac := ac) (x7 := x7) (x8 := x8) (x9 := x9) (x10 := x10) (x11 := x11) (sp := sp) (ou := ou) (w := 1) (hw := (by omega))) lk_X6_refused w_5_116 [0] rfl dX6_bill_40 rfl rfl rfl rfl ⟨by decide, by decide⟩ (Nat.le_of_ble_eq_true rfl) ?_
    rintro _ _ ⟨rfl, rfl⟩
    show ω [(hM, .inr (6, [.int (nI 1), .ref x1, .int (nI sz), .ref x3, .ref x4, .ref x5, .int (nI ac), .ref x7, .ref x8, .ref x9, .ref x10, .ref x11, .int (nI sp), .int (nI ou)])), (x3, .inl (eI E, 255, .inl g))] [(0, .ref hM), (1, .int n), (2, .int p), (3, .int w)] [.int (bP (0 < 1))] 43
    refine r_if_eqF C (y := 0) (tgt := 48) dX6_bill_43 (by decide) (fun z => ((by decide) : ¬ (¬ (0 < 1))) (z_eqB.mp z)) ?_
    refine r_iconst C dX6_bill_46 ki_0 ?_
    exact RT.1 _ _ _ _ _ dX6_bill_47 rfl rfl (⟨rfl, rfl⟩) rfl
  · replace h5_1 : vI n 20 := Decidable.not_not.mp h5_1
    refine r_aload_n C (i := 0) 0 dX6_bill_8 rfl rfl ?_
    refine r_get C 0 3 uX6 rfl rfl (by decide) w_5_64 rfl dX6_bill_9 ?_
    refine r_iload_n C (i := 2) 2 dX6_bill_12 rfl rfl ?_
    refine r_readS (rest := [.ref hM]) C (c_X6_isPart__r (r := x3) (g := g) (σ := σ) (x := p) (hR := hR) (hW := hW)) lk_X6_isPart w_5_151 [1] dX6_bill_13 rfl rfl rfl ⟨by decide, by decide⟩ (Nat.le_of_ble_eq_true rfl) (st' := [.int (bP (vI p (sP σ))), .ref hM]) rfl ?_
    refine r_if_ne C (y := 0) (c9 := vI p (sP σ)) 23 dX6_bill_16 (by decide) z_neB (fun h16_2 => ?_) (fun h16_2 => ?_)
    · refine r_iload_n C (i := 3) 3 dX6_bill_23 rfl rfl ?_
      refine r_i2l (v := (w).toInt64) C dX6_bill_24 rfl ?_
      refine r_lconst (v := lN 0) C dX6_bill_25 (by decide +kernel) ?_
      refine r_ldc2 (v := lN 3) C dX6_bill_26 w_6_20 ?_
      refine r_readS (rest := [.ref hM]) C (c_X6_in (v := (w).toInt64) (lw := lN 0) (hg := lN 3)) lk_X6_in w_5_113 [] dX6_bill_29 rfl rfl rfl ⟨by decide, by decide⟩ (Nat.le_of_ble_eq_true rfl) (st' := [.int (bP (lN 0 ≤ (w).toInt64 ∧ (w).toInt64 ≤ lN 3)), .ref hM]) rfl ?_
      refine r_st (st' := [.int (bP (vI w (4))), .ref hM]) (by rw [bP_c (in_r (by omega))]) ?_
      refine r_if_eq C (y := 0) (c9 := ¬ (vI w (4))) 39 dX6_bill_32 (by decide) z_eqB (fun h32_3 => ?_) (fun h32_3 => ?_)
      · refine r_iconst C dX6_bill_39 ki_2 ?_
        first | (exfalso; omega) | (exfalso; simp_all; done)
      · replace h32_3 : vI w (4) := Decidable.not_not.mp h32_3
        refine r_iconst C dX6_bill_35 ki_0 ?_
        refine r_goto C 40 dX6_bill_36 (by decide) ?_
        first | (exfalso; omega) | (exfalso; simp_all; done)
    · refine r_iconst C dX6_bill_19 ki_1 ?_
      refine r_goto C 40 dX6_bill_20 (by decide) ?_
      refine r_callV (rest := []) C (c_X6_refused (hM := hM) (rf := rf) (x1 := x1) (sz := sz) (x3 := x3) (x4 := x4) (x5 := x5) (ac := ac) (x7 := x7) (x8 := x8) (x9 := x9) (x10 := x10) (x11 := x11) (sp := sp) (ou := ou) (w := 1) (hw := (by omega))) lk_X6_refused w_5_116 [0] rfl dX6_bill_40 rfl rfl rfl rfl ⟨by decide, by decide⟩ (Nat.le_of_ble_eq_true rfl) ?_
      rintro _ _ ⟨rfl, rfl⟩
      show ω [(hM, .inr (6, [.int (nI 1), .ref x1, .int (nI sz), .ref x3, .ref x4, .ref x5, .int (nI ac), .ref x7, .ref x8, .ref x9, .ref x10, .ref x11, .int (nI sp), .int (nI ou)])), (x3, .inl (eI E, 255, .inl g))] [(0, .ref hM), (1, .int n), (2, .int p), (3, .int w)] [.int (bP (0 < 1))] 43
      refine r_if_eqF C (y := 0) (tgt := 48) dX6_bill_43 (by decide) (fun z => ((by decide) : ¬ (¬ (0 < 1))) (z_eqB.mp z)) ?_
      refine r_iconst C dX6_bill_46 ki_0 ?_
      exact RT.1 _ _ _ _ _ dX6_bill_47 rfl rfl (⟨rfl, rfl⟩) rfl
set_option maxRecDepth 100000 in
set_option maxHeartbeats 1000000 in
theorem c_X6_bill__x2 {l : Launch} {E : Ev} {hM rf x1 sz x3 x4 x5 ac x7 x8 x9 x10 x11 sp ou : Nat} {g : Nat → Int32} {σ : Sg} (hR : RepM σ g) (hW : Wf σ) {n p : Nat} {w : Int32} (hn : n < 20) (hp : p < sP σ) (hx : ¬ vI w 4) : Ct l E yX6_bill cX6_bill 6 (some FieldType.int) 4 99 [.ref hM, .int (nI n), .int (nI p), .int w] [(hM, .inr (6, [.int (nI rf), .ref x1, .int (nI sz), .ref x3, .ref x4, .ref x5, .int (nI ac), .ref x7, .ref x8, .ref x9, .ref x10, .ref x11, .int (nI sp), .int (nI ou)])), (x3, .inl (eI E, 255, .inl g))] (fun v9 w9 => v9 = some (.int (nI 0)) ∧ w9 = [(hM, .inr (6, [.int (nI 2), .ref x1, .int (nI sz), .ref x3, .ref x4, .ref x5, .int (nI ac), .ref x7, .ref x8, .ref x9, .ref x10, .ref x11, .int (nI sp), .int (nI ou)])), (x3, .inl (eI E, 255, .inl g))]) := by
  have hwP := hW.P
  have hwA := hW.A
  have hwS := hW.S
  refine ct_of (by decide +kernel) (Nat.le_of_ble_eq_true rfl) (fun ω C RT => ?_)
  show ω [(hM, .inr (6, [.int (nI rf), .ref x1, .int (nI sz), .ref x3, .ref x4, .ref x5, .int (nI ac), .ref x7, .ref x8, .ref x9, .ref x10, .ref x11, .int (nI sp), .int (nI ou)])), (x3, .inl (eI E, 255, .inl g))] [(0, .ref hM), (1, .int (nI n)), (2, .int (nI p)), (3, .int w)] [] 0
  refine r_aload_n C (i := 0) 0 dX6_bill_0 rfl rfl ?_
  refine r_iload_n C (i := 1) 1 dX6_bill_1 rfl rfl ?_
  refine r_readS (rest := [.ref hM]) C (c_X6_isNight (i := n) (hi := (by omega))) lk_X6_isNight w_5_185 [] dX6_bill_2 rfl rfl rfl ⟨by decide, by decide⟩ (Nat.le_of_ble_eq_true rfl) (st' := [.int (bP (n ≤ 19)), .ref hM]) rfl ?_
  refine r_if_eq C (y := 0) (c9 := ¬ (n ≤ 19)) 19 dX6_bill_5 (by decide) z_eqB (fun h5_1 => ?_) (fun h5_1 => ?_)
  · refine r_iconst C dX6_bill_19 ki_1 ?_
    refine r_goto C 40 dX6_bill_20 (by decide) ?_
    first | (exfalso; omega) | (exfalso; simp_all; done)
  · replace h5_1 : n ≤ 19 := Decidable.not_not.mp h5_1
    refine r_aload_n C (i := 0) 0 dX6_bill_8 rfl rfl ?_
    refine r_get C 0 3 uX6 rfl rfl (by decide) w_5_64 rfl dX6_bill_9 ?_
    refine r_iload_n C (i := 2) 2 dX6_bill_12 rfl rfl ?_
    refine r_readS (rest := [.ref hM]) C (c_X6_isPart (r := x3) (g := g) (σ := σ) (i := p) (hR := hR) (hW := hW) (hi := (by omega))) lk_X6_isPart w_5_151 [1] dX6_bill_13 rfl rfl rfl ⟨by decide, by decide⟩ (Nat.le_of_ble_eq_true rfl) (st' := [.int (bP (p < sP σ)), .ref hM]) rfl ?_
    refine r_if_ne C (y := 0) (c9 := p < sP σ) 23 dX6_bill_16 (by decide) z_neB (fun h16_2 => ?_) (fun h16_2 => ?_)
    · refine r_iload_n C (i := 3) 3 dX6_bill_23 rfl rfl ?_
      refine r_i2l (v := (w).toInt64) C dX6_bill_24 rfl ?_
      refine r_lconst (v := lN 0) C dX6_bill_25 (by decide +kernel) ?_
      refine r_ldc2 (v := lN 3) C dX6_bill_26 w_6_20 ?_
      refine r_readS (rest := [.ref hM]) C (c_X6_in (v := (w).toInt64) (lw := lN 0) (hg := lN 3)) lk_X6_in w_5_113 [] dX6_bill_29 rfl rfl rfl ⟨by decide, by decide⟩ (Nat.le_of_ble_eq_true rfl) (st' := [.int (bP (lN 0 ≤ (w).toInt64 ∧ (w).toInt64 ≤ lN 3)), .ref hM]) rfl ?_
      refine r_st (st' := [.int (bP (vI w (4))), .ref hM]) (by rw [bP_c (in_r (by omega))]) ?_
      refine r_if_eq C (y := 0) (c9 := ¬ (vI w (4))) 39 dX6_bill_32 (by decide) z_eqB (fun h32_3 => ?_) (fun h32_3 => ?_)
      · refine r_iconst C dX6_bill_39 ki_2 ?_
        refine r_callV (rest := []) C (c_X6_refused (hM := hM) (rf := rf) (x1 := x1) (sz := sz) (x3 := x3) (x4 := x4) (x5 := x5) (ac := ac) (x7 := x7) (x8 := x8) (x9 := x9) (x10 := x10) (x11 := x11) (sp := sp) (ou := ou) (w := 2) (hw := (by omega))) lk_X6_refused w_5_116 [0] rfl dX6_bill_40 rfl rfl rfl rfl ⟨by decide, by decide⟩ (Nat.le_of_ble_eq_true rfl) ?_
        rintro _ _ ⟨rfl, rfl⟩
        show ω [(hM, .inr (6, [.int (nI 2), .ref x1, .int (nI sz), .ref x3, .ref x4, .ref x5, .int (nI ac), .ref x7, .ref x8, .ref x9, .ref x10, .ref x11, .int (nI sp), .int (nI ou)])), (x3, .inl (eI E, 255, .inl g))] [(0, .ref hM), (1, .int (nI n)), (2, .int (nI p)), (3, .int w)] [.int (bP (0 < 2))] 43
        refine r_if_eqF C (y := 0) (tgt := 48) dX6_bill_43 (by decide) (fun z => ((by decide) : ¬ (¬ (0 < 2))) (z_eqB.mp z)) ?_
        refine r_iconst C dX6_bill_46 ki_0 ?_
        exact RT.1 _ _ _ _ _ dX6_bill_47 rfl rfl (⟨rfl, rfl⟩) rfl
      · replace h32_3 : vI w (4) := Decidable.not_not.mp h32_3
        refine r_iconst C dX6_bill_35 ki_0 ?_
        refine r_goto C 40 dX6_bill_36 (by decide) ?_
        first | (exfalso; omega) | (exfalso; simp_all; done)
    · refine r_iconst C dX6_bill_19 ki_1 ?_
      refine r_goto C 40 dX6_bill_20 (by decide) ?_
      first | (exfalso; omega) | (exfalso; simp_all; done)
theorem setE {σ : Sg} {n q set : Nat} (h : set = us σ n q) (hq : q ≤ sP σ) (hd : dk σ n = 1 ∧ q = 0 ∨ dk σ n = 0 ∧ q = sP σ) : set = plr σ n := by
  unfold plr
  rcases hd with ⟨d, e⟩ | ⟨d, e⟩
  · rw [if_pos d, h, e]; rfl
  · rw [if_neg (by omega), h, e]
theorem otE {σ : Sg} {n q o : Nat} (h : o = otN σ n q) (hq : q ≤ sP σ) (hd : dk σ n = 1 ∧ q = 0 ∨ dk σ n = 0 ∧ q = sP σ) : o = otk σ n := by
  unfold otk
  rcases hd with ⟨d, e⟩ | ⟨d, e⟩
  · rw [if_neg (by omega), h, e]; rfl
  · rw [if_pos d, h, e]
set_option maxRecDepth 100000 in
set_option maxHeartbeats 1000000 in
theorem c_X6_night {l : Launch} {E : Ev} {hM rf x1 sz x3 x4 x5 ac x7 x8 x9 x10 x11 sp ou : Nat} {t1 t2 t3 : Nat → Int32} {g : Nat → Int32} {σ : Sg} (hR : RepM σ g) (hW : Wf σ) {n w : Nat} (hn : n < 20) (hw : w < 5) : Ct l E yX6_night cX6_night 9 (some FieldType.int) 5 123 [.ref hM, .int (nI n), .int (nI w)] [(hM, .inr (6, [.int (nI rf), .ref x1, .int (nI sz), .ref x3, .ref x4, .ref x5, .int (nI ac), .ref x7, .ref x8, .ref x9, .ref x10, .ref x11, .int (nI sp), .int (nI ou)])), (x9, .inl (eI E, 6, .inl t1)), (x10, .inl (eI E, 6, .inl t2)), (x11, .inl (eI E, 6, .inl t3)), (x3, .inl (eI E, 255, .inl g))] (fun v9 w9 => ∃ ta tb tc : Nat → Int32, v9 = some (.int (aNight σ n w)) ∧ w9 = [(hM, .inr (6, [.int (nI 0), .ref x1, .int (nI sz), .ref x3, .ref x4, .ref x5, .int (nI ac), .ref x7, .ref x8, .ref x9, .ref x10, .ref x11, .int (nI sp), .int (nI ou)])), (x9, .inl (eI E, 6, .inl ta)), (x10, .inl (eI E, 6, .inl tb)), (x11, .inl (eI E, 6, .inl tc)), (x3, .inl (eI E, 255, .inl g))]) := by
  have hwP := hW.P
  have hwA := hW.A
  have hwS := hW.S
  refine ct_of (by decide +kernel) (Nat.le_of_ble_eq_true rfl) (fun ω C RT => ?_)
  show ω [(hM, .inr (6, [.int (nI rf), .ref x1, .int (nI sz), .ref x3, .ref x4, .ref x5, .int (nI ac), .ref x7, .ref x8, .ref x9, .ref x10, .ref x11, .int (nI sp), .int (nI ou)])), (x9, .inl (eI E, 6, .inl t1)), (x10, .inl (eI E, 6, .inl t2)), (x11, .inl (eI E, 6, .inl t3)), (x3, .inl (eI E, 255, .inl g))] [(0, .ref hM), (1, .int (nI n)), (2, .int (nI w))] [] 0
  refine r_aload_n C (i := 0) 0 dX6_night_0 rfl rfl ?_
  refine r_iload_n C (i := 1) 1 dX6_night_1 rfl rfl ?_
  refine r_readS (rest := [.ref hM]) C (c_X6_isNight (i := n) (hi := (by omega))) lk_X6_isNight w_5_185 [] dX6_night_2 rfl rfl rfl ⟨by decide, by decide⟩ (Nat.le_of_ble_eq_true rfl) (st' := [.int (bP (n ≤ 19)), .ref hM]) rfl ?_
  refine r_if_ne C (y := 0) (c9 := n ≤ 19) 12 dX6_night_5 (by decide) z_neB (fun h5_1 => ?_) (fun h5_1 => ?_)
  · refine r_iload_n C (i := 2) 2 dX6_night_12 rfl rfl ?_
    refine r_i2l (v := lN w) C dX6_night_13 (v_i2l (by omega)) ?_
    refine r_lconst (v := lN 0) C dX6_night_14 (by decide +kernel) ?_
    refine r_ldc2 (v := lN 4) C dX6_night_15 w_6_25 ?_
    refine r_readS (rest := [.ref hM]) C (c_X6_in (v := lN w) (lw := lN 0) (hg := lN 4)) lk_X6_in w_5_113 [] dX6_night_18 rfl rfl rfl ⟨by decide, by decide⟩ (Nat.le_of_ble_eq_true rfl) (st' := [.int (bP (lN 0 ≤ lN w ∧ lN w ≤ lN 4)), .ref hM]) rfl ?_
    refine r_st (st' := [.int (bP (w ≤ 4)), .ref hM]) (by rw [bP_c (in_N (by omega) (by omega))]) ?_
    refine r_if_eq C (y := 0) (c9 := ¬ (w ≤ 4)) 28 dX6_night_21 (by decide) z_eqB (fun h21_2 => ?_) (fun h21_2 => ?_)
    · refine r_iconst C dX6_night_28 ki_2 ?_
      first | (exfalso; omega) | (exfalso; simp_all; done)
    · replace h21_2 : w ≤ 4 := Decidable.not_not.mp h21_2
      refine r_iconst C dX6_night_24 ki_0 ?_
      refine r_goto C 29 dX6_night_25 (by decide) ?_
      refine r_callV (rest := []) C (c_X6_refused (hM := hM) (rf := rf) (x1 := x1) (sz := sz) (x3 := x3) (x4 := x4) (x5 := x5) (ac := ac) (x7 := x7) (x8 := x8) (x9 := x9) (x10 := x10) (x11 := x11) (sp := sp) (ou := ou) (w := 0) (hw := (by omega))) lk_X6_refused w_5_116 [0] rfl dX6_night_29 rfl rfl rfl rfl ⟨by decide, by decide⟩ (Nat.le_of_ble_eq_true rfl) ?_
      rintro _ _ ⟨rfl, rfl⟩
      show ω [(hM, .inr (6, [.int (nI 0), .ref x1, .int (nI sz), .ref x3, .ref x4, .ref x5, .int (nI ac), .ref x7, .ref x8, .ref x9, .ref x10, .ref x11, .int (nI sp), .int (nI ou)])), (x9, .inl (eI E, 6, .inl t1)), (x10, .inl (eI E, 6, .inl t2)), (x11, .inl (eI E, 6, .inl t3)), (x3, .inl (eI E, 255, .inl g))] [(0, .ref hM), (1, .int (nI n)), (2, .int (nI w))] [.int (bP (0 < 0))] 32
      refine r_if_eqT C (y := 0) 37 dX6_night_32 (by decide) (z_eqB.mpr (by decide)) ?_
      refine r_iconst C dX6_night_37 ki_0 ?_
      refine r_istore_n C (lv' := [(3, .int (nI 0)), (0, .ref hM), (1, .int (nI n)), (2, .int (nI w))]) dX6_night_38 rfl (by decide) rfl ?_
      refine r_iconst C dX6_night_39 ki_0 ?_
      refine r_istore C (lv' := [(4, .int (nI 0)), (3, .int (nI 0)), (0, .ref hM), (1, .int (nI n)), (2, .int (nI w))]) dX6_night_40 (by decide) rfl ?_
      have loop42_3 : ∀ (dd9 : Nat) (a : Nat) (ill : Nat), sA σ - a < dd9 → (a ≤ sA σ) → (ill = bm (fun a => sI σ a n) a) → ω [(hM, .inr (6, [.int (nI 0), .ref x1, .int (nI sz), .ref x3, .ref x4, .ref x5, .int (nI ac), .ref x7, .ref x8, .ref x9, .ref x10, .ref x11, .int (nI sp), .int (nI ou)])), (x9, .inl (eI E, 6, .inl t1)), (x10, .inl (eI E, 6, .inl t2)), (x11, .inl (eI E, 6, .inl t3)), (x3, .inl (eI E, 255, .inl g))] [(4, .int (nI a)), (3, .int (nI ill)), (0, .ref hM), (1, .int (nI n)), (2, .int (nI w))] [] 42 := by
        intro dd9
        induction dd9 with
        | zero => intro a ill hd; exact absurd hd (Nat.not_lt_zero _)
        | succ dd9 ih4 =>
          intro a ill hd ha hil
          have hill : ill < 1024 := by rw [hil]; exact Nat.lt_of_lt_of_le (bm_lt (fun k => hW.I k n) _) (Nat.pow_le_pow_right (by decide) (by omega : a ≤ 10))
          refine r_iload C (i := 4) 0 dX6_night_42 rfl ?_
          refine r_aload_n C (i := 0) 2 dX6_night_44 rfl rfl ?_
          refine r_get C 0 3 uX6 rfl rfl (by decide) w_5_64 rfl dX6_night_45 ?_
          refine r_iconst C dX6_night_48 ki_1 ?_
          refine r_iald (j := 1) (v := nI (sA σ)) C 4 rfl (by omega) (by decide) hR.A dX6_night_49 ?_
          refine r_icmp_ge C (c9 := sA σ ≤ a) 83 dX6_night_50 (by decide) (c_leNN (by omega) (by omega)) (fun h50_5 => ?_) (fun h50_5 => ?_)
          · refine r_aload_n C (i := 0) 2 dX6_night_83 rfl rfl ?_
            refine r_aload_n C (i := 0) 2 dX6_night_84 rfl rfl ?_
            refine r_get C 0 3 uX6 rfl rfl (by decide) w_5_64 rfl dX6_night_85 ?_
            refine r_iload_n C (i := 1) 3 dX6_night_88 rfl rfl ?_
            refine r_callV (rest := []) C (c_X6_takings (hM := hM) (rf := 0) (x1 := x1) (sz := sz) (x3 := x3) (x4 := x4) (x5 := x5) (ac := ac) (x7 := x7) (x8 := x8) (x9 := x9) (x10 := x10) (x11 := x11) (sp := sp) (ou := ou) (t1 := t1) (t2 := t2) (t3 := t3) (r := x3) (g := g) (σ := σ) (n := n) (hR := hR) (hW := hW) (hn := (by omega))) lk_X6_takings w_5_238 [0, 1, 2, 3, 4] rfl dX6_night_89 rfl rfl rfl rfl ⟨by decide, by decide⟩ (Nat.le_of_ble_eq_true rfl) ?_
            rintro _ _ ⟨ta_6, tb_7, tc_8, rfl, rfl⟩
            show ω [(hM, .inr (6, [.int (nI 0), .ref x1, .int (nI sz), .ref x3, .ref x4, .ref x5, .int (nI ac), .ref x7, .ref x8, .ref x9, .ref x10, .ref x11, .int (nI sp), .int (nI ou)])), (x9, .inl (eI E, 6, .inl ta_6)), (x10, .inl (eI E, 6, .inl tb_7)), (x11, .inl (eI E, 6, .inl tc_8)), (x3, .inl (eI E, 255, .inl g))] [(4, .int (nI a)), (3, .int (nI ill)), (0, .ref hM), (1, .int (nI n)), (2, .int (nI w))] [.int (nI (tak σ n))] 92
            refine r_istore C (lv' := [(4, .int (nI (tak σ n))), (3, .int (nI ill)), (0, .ref hM), (1, .int (nI n)), (2, .int (nI w))]) dX6_night_92 (by decide) rfl ?_
            refine r_aload_n C (i := 0) 2 dX6_night_94 rfl rfl ?_
            refine r_aload_n C (i := 0) 2 dX6_night_95 rfl rfl ?_
            refine r_get C 0 3 uX6 rfl rfl (by decide) w_5_64 rfl dX6_night_96 ?_
            refine r_iload_n C (i := 1) 3 dX6_night_99 rfl rfl ?_
            refine r_callV (rest := []) C (c_X6_goThrough (hM := hM) (rf := 0) (x1 := x1) (sz := sz) (x3 := x3) (x4 := x4) (x5 := x5) (ac := ac) (x7 := x7) (x8 := x8) (x9 := x9) (x10 := x10) (x11 := x11) (sp := sp) (ou := ou) (t1 := ta_6) (t2 := tb_7) (t3 := tc_8) (r := x3) (g := g) (σ := σ) (n := n) (hR := hR) (hW := hW) (hn := (by omega))) lk_X6_goThrough w_5_211 [0, 1, 2, 3, 4] rfl dX6_night_100 rfl rfl rfl rfl ⟨by decide, by decide⟩ (Nat.le_of_ble_eq_true rfl) ?_
            rintro _ _ ⟨ta_9, tb_10, tc_11, rfl, rfl, hEv_12⟩
            show ω [(hM, .inr (6, [.int (nI 0), .ref x1, .int (nI sz), .ref x3, .ref x4, .ref x5, .int (nI ac), .ref x7, .ref x8, .ref x9, .ref x10, .ref x11, .int (nI sp), .int (nI ou)])), (x9, .inl (eI E, 6, .inl ta_9)), (x10, .inl (eI E, 6, .inl tb_10)), (x11, .inl (eI E, 6, .inl tc_11)), (x3, .inl (eI E, 255, .inl g))] [(4, .int (nI (tak σ n))), (3, .int (nI ill)), (0, .ref hM), (1, .int (nI n)), (2, .int (nI w))] [.int (bP (dk σ n = 1))] 103
            refine r_istore C (lv' := [(5, .int (bP (dk σ n = 1))), (4, .int (nI (tak σ n))), (3, .int (nI ill)), (0, .ref hM), (1, .int (nI n)), (2, .int (nI w))]) dX6_night_103 (by decide) rfl ?_
            refine r_iconst C dX6_night_105 ki_0 ?_
            refine r_istore C (lv' := [(6, .int (nI 0)), (5, .int (bP (dk σ n = 1))), (4, .int (nI (tak σ n))), (3, .int (nI ill)), (0, .ref hM), (1, .int (nI n)), (2, .int (nI w))]) dX6_night_106 (by decide) rfl ?_
            refine r_iconst C dX6_night_108 ki_0 ?_
            refine r_istore C (lv' := [(7, .int (nI 0)), (6, .int (nI 0)), (5, .int (bP (dk σ n = 1))), (4, .int (nI (tak σ n))), (3, .int (nI ill)), (0, .ref hM), (1, .int (nI n)), (2, .int (nI w))]) dX6_night_109 (by decide) rfl ?_
            refine r_iconst C dX6_night_111 ki_0 ?_
            refine r_istore C (lv' := [(8, .int (nI 0)), (7, .int (nI 0)), (6, .int (nI 0)), (5, .int (bP (dk σ n = 1))), (4, .int (nI (tak σ n))), (3, .int (nI ill)), (0, .ref hM), (1, .int (nI n)), (2, .int (nI w))]) dX6_night_112 (by decide) rfl ?_
            have loop114_13 : ∀ (dd9 : Nat) (q : Nat) (ot : Nat) (se : Nat), sP σ - q < dd9 → (q ≤ sP σ) → (ot = otN σ n q) → (se = us σ n q) → (dk σ n = 1 → q = 0) → ω [(hM, .inr (6, [.int (nI 0), .ref x1, .int (nI sz), .ref x3, .ref x4, .ref x5, .int (nI ac), .ref x7, .ref x8, .ref x9, .ref x10, .ref x11, .int (nI sp), .int (nI ou)])), (x9, .inl (eI E, 6, .inl ta_9)), (x10, .inl (eI E, 6, .inl tb_10)), (x11, .inl (eI E, 6, .inl tc_11)), (x3, .inl (eI E, 255, .inl g))] [(8, .int (nI q)), (7, .int (nI ot)), (6, .int (nI se)), (5, .int (bP (dk σ n = 1))), (4, .int (nI (tak σ n))), (3, .int (nI ill)), (0, .ref hM), (1, .int (nI n)), (2, .int (nI w))] [] 114 := by
              intro dd9
              induction dd9 with
              | zero => intro q ot se hd; exact absurd hd (Nat.not_lt_zero _)
              | succ dd9 ih14 =>
                intro q ot se hd hq hot hset hdq
                have hul : se < 1024 := by rw [hset]; exact us_lt hW hn hq
                have hol := otN_le σ n q
                have hdk := dk_le σ n
                refine r_iload C (i := 8) 0 dX6_night_114 rfl ?_
                refine r_aload_n C (i := 0) 6 dX6_night_116 rfl rfl ?_
                refine r_get C 0 3 uX6 rfl rfl (by decide) w_5_64 rfl dX6_night_117 ?_
                refine r_iconst C dX6_night_120 ki_0 ?_
                refine r_iald (j := 0) (v := nI (sP σ)) C 4 rfl (by omega) (by decide) hR.P dX6_night_121 ?_
                refine r_icmp_ge C (c9 := sP σ ≤ q) 180 dX6_night_122 (by decide) (c_leNN (by omega) (by omega)) (fun h122_15 => ?_) (fun h122_15 => ?_)
                · have hdz : dk σ n = 1 ∧ q = 0 ∨ dk σ n = 0 ∧ q = sP σ := (Nat.lt_or_ge 0 (dk σ n)).elim (fun e => Or.inl ⟨by omega, hdq (by omega)⟩) (fun e => Or.inr ⟨by omega, by omega⟩)
                  refine r_iload_n C (i := 2) 8 dX6_night_180 rfl rfl ?_
                  refine r_if_ne C (y := 0) (c9 := w ≠ 0) 197 dX6_night_181 (by decide) (z_neN (by omega)) (fun h181_16 => ?_) (fun h181_16 => ?_)
                  · refine r_iload_n C (i := 2) 8 dX6_night_197 rfl rfl ?_
                    refine r_iconst C dX6_night_198 ki_1 ?_
                    refine r_icmp_ne C (c9 := w ≠ 1) 207 dX6_night_199 (by decide) (c_neNN (by omega) (by omega)) (fun h199_17 => ?_) (fun h199_17 => ?_)
                    · refine r_iload_n C (i := 2) 8 dX6_night_207 rfl rfl ?_
                      refine r_iconst C dX6_night_208 ki_2 ?_
                      refine r_icmp_ne C (c9 := w ≠ 2) 216 dX6_night_209 (by decide) (c_neNN (by omega) (by omega)) (fun h209_18 => ?_) (fun h209_18 => ?_)
                      · refine r_iload_n C (i := 2) 8 dX6_night_216 rfl rfl ?_
                        refine r_iconst C dX6_night_217 ki_3 ?_
                        refine r_icmp_ne C (c9 := w ≠ 3) 226 dX6_night_218 (by decide) (c_neNN (by omega) (by omega)) (fun h218_19 => ?_) (fun h218_19 => ?_)
                        · refine r_iload C (i := 7) 1 dX6_night_226 rfl ?_
                          exact RT.1 _ _ _ _ _ dX6_night_228 rfl rfl (⟨_, _, _, sv (by rw [aNight, if_neg (by omega), if_neg (by omega), if_neg (by omega), if_neg (by omega)]; exact congrArg nI (otE hot hq hdz)), rfl⟩) rfl
                        · refine r_iload C (i := 6) 2 dX6_night_221 rfl ?_
                          refine r_goto C 228 dX6_night_223 (by decide) ?_
                          exact RT.1 _ _ _ _ _ dX6_night_228 rfl rfl (⟨_, _, _, sv (by rw [aNight, if_neg (by omega), if_neg (by omega), if_neg (by omega), if_pos (by omega)]; exact congrArg nI (setE hset hq hdz)), rfl⟩) rfl
                      · refine r_iload_n C (i := 3) 5 dX6_night_212 rfl rfl ?_
                        refine r_goto C 228 dX6_night_213 (by decide) ?_
                        exact RT.1 _ _ _ _ _ dX6_night_228 rfl rfl (⟨_, _, _, sv (by rw [aNight, if_neg (by omega), if_neg (by omega), if_pos (by omega), hil, (by omega : a = sA σ)]), rfl⟩) rfl
                    · refine r_iload C (i := 4) 4 dX6_night_202 rfl ?_
                      refine r_goto C 228 dX6_night_204 (by decide) ?_
                      exact RT.1 _ _ _ _ _ dX6_night_228 rfl rfl (⟨_, _, _, sv (by rw [aNight, if_neg (by omega), if_pos (by omega)]), rfl⟩) rfl
                  · refine r_iload C (i := 5) 3 dX6_night_184 rfl ?_
                    refine r_if_eq C (y := 0) (c9 := ¬ (dk σ n = 1)) 193 dX6_night_186 (by decide) z_eqB (fun h186_20 => ?_) (fun h186_20 => ?_)
                    · refine r_iconst C dX6_night_193 ki_0 ?_
                      refine r_goto C 228 dX6_night_194 (by decide) ?_
                      exact RT.1 _ _ _ _ _ dX6_night_228 rfl rfl (⟨_, _, _, sv (by rw [aNight, if_pos (by omega), (by have := dk_le σ n; omega : dk σ n = 0)]), rfl⟩) rfl
                    · replace h186_20 : dk σ n = 1 := Decidable.not_not.mp h186_20
                      refine r_iconst C dX6_night_189 ki_1 ?_
                      refine r_goto C 228 dX6_night_190 (by decide) ?_
                      exact RT.1 _ _ _ _ _ dX6_night_228 rfl rfl (⟨_, _, _, sv (by rw [aNight, if_pos (by omega), (by have := dk_le σ n; omega : dk σ n = 1)]), rfl⟩) rfl
                · refine r_iload C (i := 5) 3 dX6_night_125 rfl ?_
                  refine r_if_ne C (y := 0) (c9 := dk σ n = 1) 180 dX6_night_127 (by decide) z_neB (fun h127_21 => ?_) (fun h127_21 => ?_)
                  · have hdz : dk σ n = 1 ∧ q = 0 ∨ dk σ n = 0 ∧ q = sP σ := (Nat.lt_or_ge 0 (dk σ n)).elim (fun e => Or.inl ⟨by omega, hdq (by omega)⟩) (fun e => Or.inr ⟨by omega, by omega⟩)
                    refine r_iload_n C (i := 2) 8 dX6_night_180 rfl rfl ?_
                    refine r_if_ne C (y := 0) (c9 := w ≠ 0) 197 dX6_night_181 (by decide) (z_neN (by omega)) (fun h181_22 => ?_) (fun h181_22 => ?_)
                    · refine r_iload_n C (i := 2) 8 dX6_night_197 rfl rfl ?_
                      refine r_iconst C dX6_night_198 ki_1 ?_
                      refine r_icmp_ne C (c9 := w ≠ 1) 207 dX6_night_199 (by decide) (c_neNN (by omega) (by omega)) (fun h199_23 => ?_) (fun h199_23 => ?_)
                      · refine r_iload_n C (i := 2) 8 dX6_night_207 rfl rfl ?_
                        refine r_iconst C dX6_night_208 ki_2 ?_
                        refine r_icmp_ne C (c9 := w ≠ 2) 216 dX6_night_209 (by decide) (c_neNN (by omega) (by omega)) (fun h209_24 => ?_) (fun h209_24 => ?_)
                        · refine r_iload_n C (i := 2) 8 dX6_night_216 rfl rfl ?_
                          refine r_iconst C dX6_night_217 ki_3 ?_
                          refine r_icmp_ne C (c9 := w ≠ 3) 226 dX6_night_218 (by decide) (c_neNN (by omega) (by omega)) (fun h218_25 => ?_) (fun h218_25 => ?_)
                          · refine r_iload C (i := 7) 1 dX6_night_226 rfl ?_
                            exact RT.1 _ _ _ _ _ dX6_night_228 rfl rfl (⟨_, _, _, sv (by rw [aNight, if_neg (by omega), if_neg (by omega), if_neg (by omega), if_neg (by omega)]; exact congrArg nI (otE hot hq hdz)), rfl⟩) rfl
                          · refine r_iload C (i := 6) 2 dX6_night_221 rfl ?_
                            refine r_goto C 228 dX6_night_223 (by decide) ?_
                            exact RT.1 _ _ _ _ _ dX6_night_228 rfl rfl (⟨_, _, _, sv (by rw [aNight, if_neg (by omega), if_neg (by omega), if_neg (by omega), if_pos (by omega)]; exact congrArg nI (setE hset hq hdz)), rfl⟩) rfl
                        · refine r_iload_n C (i := 3) 5 dX6_night_212 rfl rfl ?_
                          refine r_goto C 228 dX6_night_213 (by decide) ?_
                          exact RT.1 _ _ _ _ _ dX6_night_228 rfl rfl (⟨_, _, _, sv (by rw [aNight, if_neg (by omega), if_neg (by omega), if_pos (by omega), hil, (by omega : a = sA σ)]), rfl⟩) rfl
                      · refine r_iload C (i := 4) 4 dX6_night_202 rfl ?_
                        refine r_goto C 228 dX6_night_204 (by decide) ?_
                        exact RT.1 _ _ _ _ _ dX6_night_228 rfl rfl (⟨_, _, _, sv (by rw [aNight, if_neg (by omega), if_pos (by omega)]), rfl⟩) rfl
                    · refine r_iload C (i := 5) 3 dX6_night_184 rfl ?_
                      refine r_if_eqF C (y := 0) (tgt := 193) dX6_night_186 (by decide) (fun z => ((fun q => q h127_21) : ¬ (¬ (dk σ n = 1))) (z_eqB.mp z)) ?_
                      refine r_iconst C dX6_night_189 ki_1 ?_
                      refine r_goto C 228 dX6_night_190 (by decide) ?_
                      exact RT.1 _ _ _ _ _ dX6_night_228 rfl rfl (⟨_, _, _, sv (by rw [aNight, if_pos (by omega), (by have := dk_le σ n; omega : dk σ n = 1)]), rfl⟩) rfl
                  · have hd0 : dk σ n = 0 := by omega
                    have hT0 := (dk_iff.mp hd0).2 q (by omega)
                    have hTl := T_le hW (show q < sP σ by omega) hn
                    have hRl := hW.R (show q < sP σ by omega) hn
                    refine r_iload C (i := 6) 2 dX6_night_130 rfl ?_
                    refine r_iconst C dX6_night_132 ki_1 ?_
                    refine r_aload_n C (i := 0) 6 dX6_night_133 rfl rfl ?_
                    refine r_get C 0 9 uX6 rfl rfl (by decide) w_5_70 rfl dX6_night_134 ?_
                    refine r_iload C (i := 8) 0 dX6_night_137 rfl ?_
                    refine r_iald (j := q) (v := nI (T σ n q - 1)) C 1 rfl (by omega) (by decide) ((hEv_12 q (by omega)).1.trans (by rw [show T σ n q = T σ n q - 1 + 1 from by omega, mI_s, Nat.add_sub_cancel])) dX6_night_139 ?_
                    refine r_ishl (v := nI (2 ^ (T σ n q - 1))) C dX6_night_140 (v_shl (by omega)) ?_
                    refine r_ior (v := nI (se ||| (2 ^ (T σ n q - 1)))) C dX6_night_141 (v_or _ _) ?_
                    refine r_istore C (lv' := [(6, .int (nI (se ||| (2 ^ (T σ n q - 1))))), (8, .int (nI q)), (7, .int (nI ot)), (5, .int (bP (dk σ n = 1))), (4, .int (nI (tak σ n))), (3, .int (nI ill)), (0, .ref hM), (1, .int (nI n)), (2, .int (nI w))]) dX6_night_142 (by decide) rfl ?_
                    refine r_iload C (i := 7) 2 dX6_night_144 rfl ?_
                    refine r_aload_n C (i := 0) 6 dX6_night_146 rfl rfl ?_
                    refine r_get C 0 9 uX6 rfl rfl (by decide) w_5_70 rfl dX6_night_147 ?_
                    refine r_iload C (i := 8) 1 dX6_night_150 rfl ?_
                    refine r_iald (j := q) (v := mI (T σ n q)) C 1 rfl (by omega) (by decide) ((hEv_12 q (by omega)).1) dX6_night_152 ?_
                    refine r_aload_n C (i := 0) 6 dX6_night_153 rfl rfl ?_
                    refine r_get C 0 3 uX6 rfl rfl (by decide) w_5_64 rfl dX6_night_154 ?_
                    refine r_iload_n C (i := 1) 7 dX6_night_157 rfl rfl ?_
                    refine r_iload C (i := 8) 1 dX6_night_158 rfl ?_
                    refine r_readS (rest := [.int (mI (T σ n q)), .int (nI ot)]) C (c_X6_principal (r := x3) (g := g) (σ := σ) (n := n) (p := q) (hR := hR) (hW := hW) (hn := (by omega)) (hp := (by omega))) lk_X6_principal w_5_160 [4] dX6_night_160 rfl rfl rfl ⟨by decide, by decide⟩ (Nat.le_of_ble_eq_true rfl) (st' := [.int (mI (sR σ q n)), .int (mI (T σ n q)), .int (nI ot)]) rfl ?_
                    refine r_icmp_ne C (c9 := T σ n q ≠ sR σ q n) 170 dX6_night_163 (by decide) (c_neMM (by omega) (by omega)) (fun h163_26 => ?_) (fun h163_26 => ?_)
                    · refine r_iconst C dX6_night_170 ki_1 ?_
                      refine r_iadd (v := nI (ot + 1)) C dX6_night_171 (nI_add _ _) ?_
                      refine r_istore C (lv' := [(7, .int (nI (ot + 1))), (6, .int (nI (se ||| (2 ^ (T σ n q - 1))))), (8, .int (nI q)), (5, .int (bP (dk σ n = 1))), (4, .int (nI (tak σ n))), (3, .int (nI ill)), (0, .ref hM), (1, .int (nI n)), (2, .int (nI w))]) dX6_night_172 (by decide) rfl ?_
                      refine r_iinc C (lv' := [(8, .int (nI (q + 1))), (7, .int (nI (ot + 1))), (6, .int (nI (se ||| (2 ^ (T σ n q - 1))))), (5, .int (bP (dk σ n = 1))), (4, .int (nI (tak σ n))), (3, .int (nI ill)), (0, .ref hM), (1, .int (nI n)), (2, .int (nI w))]) (v := nI (q + 1)) 2 dX6_night_174 rfl (v_inc _) (by decide) rfl ?_
                      refine r_goto C 114 dX6_night_177 (by decide) ?_
                      exact ih14 (q + 1) (ot + 1) (se ||| (2 ^ (T σ n q - 1))) (by omega) (by omega) (by rw [otN, hot, if_neg (by omega)]) (by rw [us_s, if_neg hT0, hset]) (fun z => absurd z (by omega))
                    · refine r_iconst C dX6_night_166 ki_0 ?_
                      refine r_goto C 171 dX6_night_167 (by decide) ?_
                      refine r_iadd (v := nI (ot + 0)) C dX6_night_171 (nI_add _ _) ?_
                      refine r_istore C (lv' := [(7, .int (nI (ot + 0))), (6, .int (nI (se ||| (2 ^ (T σ n q - 1))))), (8, .int (nI q)), (5, .int (bP (dk σ n = 1))), (4, .int (nI (tak σ n))), (3, .int (nI ill)), (0, .ref hM), (1, .int (nI n)), (2, .int (nI w))]) dX6_night_172 (by decide) rfl ?_
                      refine r_iinc C (lv' := [(8, .int (nI (q + 1))), (7, .int (nI (ot + 0))), (6, .int (nI (se ||| (2 ^ (T σ n q - 1))))), (5, .int (bP (dk σ n = 1))), (4, .int (nI (tak σ n))), (3, .int (nI ill)), (0, .ref hM), (1, .int (nI n)), (2, .int (nI w))]) (v := nI (q + 1)) 2 dX6_night_174 rfl (v_inc _) (by decide) rfl ?_
                      refine r_goto C 114 dX6_night_177 (by decide) ?_
                      exact ih14 (q + 1) (ot + 0) (se ||| (2 ^ (T σ n q - 1))) (by omega) (by omega) (by rw [otN, hot, if_pos (by omega)]) (by rw [us_s, if_neg hT0, hset]) (fun z => absurd z (by omega))
            exact loop114_13 _ 0 0 0 (Nat.lt_succ_self _) (by omega) rfl rfl (fun _ => rfl)
          · refine r_iload_n C (i := 3) 1 dX6_night_53 rfl rfl ?_
            refine r_aload_n C (i := 0) 2 dX6_night_54 rfl rfl ?_
            refine r_get C 0 3 uX6 rfl rfl (by decide) w_5_64 rfl dX6_night_55 ?_
            refine r_iload C (i := 4) 0 dX6_night_58 rfl ?_
            refine r_iload_n C (i := 1) 3 dX6_night_60 rfl rfl ?_
            refine r_readS (rest := [.int (nI ill)]) C (c_X6_isIll (r := x3) (g := g) (σ := σ) (a := a) (n := n) (hR := hR) (hW := hW) (ha := (by omega)) (hn := (by omega))) lk_X6_isIll w_5_221 [4] dX6_night_61 rfl rfl rfl ⟨by decide, by decide⟩ (Nat.le_of_ble_eq_true rfl) (st' := [.int (bP (sI σ a n = 1)), .int (nI ill)]) rfl ?_
            refine r_if_eq C (y := 0) (c9 := ¬ (sI σ a n = 1)) 74 dX6_night_64 (by decide) z_eqB (fun h64_27 => ?_) (fun h64_27 => ?_)
            · refine r_iconst C dX6_night_74 ki_0 ?_
              refine r_ior (v := nI (ill ||| 0)) C dX6_night_75 (v_or _ _) ?_
              refine r_istore_n C (lv' := [(3, .int (nI (ill ||| 0))), (4, .int (nI a)), (0, .ref hM), (1, .int (nI n)), (2, .int (nI w))]) dX6_night_76 rfl (by decide) rfl ?_
              refine r_iinc C (lv' := [(4, .int (nI (a + 1))), (3, .int (nI (ill ||| 0))), (0, .ref hM), (1, .int (nI n)), (2, .int (nI w))]) (v := nI (a + 1)) 1 dX6_night_77 rfl (v_inc _) (by decide) rfl ?_
              refine r_goto C 42 dX6_night_80 (by decide) ?_
              exact ih4 (a + 1) (ill ||| 0) (by omega) (by omega) (by rw [hil, Nat.or_zero]; exact bm_no (b := fun a => sI σ a n) (by have := hW.I a n; show sI σ a n = 0; omega))
            · replace h64_27 : sI σ a n = 1 := Decidable.not_not.mp h64_27
              refine r_iconst C dX6_night_67 ki_1 ?_
              refine r_iload C (i := 4) 0 dX6_night_68 rfl ?_
              refine r_ishl (v := nI (2 ^ a)) C dX6_night_70 (v_shl (by omega)) ?_
              refine r_goto C 75 dX6_night_71 (by decide) ?_
              refine r_ior (v := nI (ill ||| (2 ^ a))) C dX6_night_75 (v_or _ _) ?_
              refine r_istore_n C (lv' := [(3, .int (nI (ill ||| (2 ^ a)))), (4, .int (nI a)), (0, .ref hM), (1, .int (nI n)), (2, .int (nI w))]) dX6_night_76 rfl (by decide) rfl ?_
              refine r_iinc C (lv' := [(4, .int (nI (a + 1))), (3, .int (nI (ill ||| (2 ^ a)))), (0, .ref hM), (1, .int (nI n)), (2, .int (nI w))]) (v := nI (a + 1)) 1 dX6_night_77 rfl (v_inc _) (by decide) rfl ?_
              refine r_goto C 42 dX6_night_80 (by decide) ?_
              exact ih4 (a + 1) (ill ||| (2 ^ a)) (by omega) (by omega) (by rw [hil]; exact bm_or (fun k => hW.I k n) h64_27)
      exact loop42_3 _ 0 0 (Nat.lt_succ_self _) (by omega) rfl
  · refine r_iconst C dX6_night_8 ki_1 ?_
    refine r_goto C 29 dX6_night_9 (by decide) ?_
    first | (exfalso; omega) | (exfalso; simp_all; done)
set_option maxRecDepth 100000 in
set_option maxHeartbeats 1000000 in
theorem c_X6_night__x1 {l : Launch} {E : Ev} {hM rf x1 sz x3 x4 x5 ac x7 x8 x9 x10 x11 sp ou : Nat} {g : Nat → Int32} {σ : Sg} (hR : RepM σ g) (hW : Wf σ) {n w : Int32} (hx : ¬ vI n 20) : Ct l E yX6_night cX6_night 9 (some FieldType.int) 5 123 [.ref hM, .int n, .int w] [(hM, .inr (6, [.int (nI rf), .ref x1, .int (nI sz), .ref x3, .ref x4, .ref x5, .int (nI ac), .ref x7, .ref x8, .ref x9, .ref x10, .ref x11, .int (nI sp), .int (nI ou)])), (x3, .inl (eI E, 255, .inl g))] (fun v9 w9 => v9 = some (.int (nI 0)) ∧ w9 = [(hM, .inr (6, [.int (nI 1), .ref x1, .int (nI sz), .ref x3, .ref x4, .ref x5, .int (nI ac), .ref x7, .ref x8, .ref x9, .ref x10, .ref x11, .int (nI sp), .int (nI ou)])), (x3, .inl (eI E, 255, .inl g))]) := by
  have hwP := hW.P
  have hwA := hW.A
  have hwS := hW.S
  refine ct_of (by decide +kernel) (Nat.le_of_ble_eq_true rfl) (fun ω C RT => ?_)
  show ω [(hM, .inr (6, [.int (nI rf), .ref x1, .int (nI sz), .ref x3, .ref x4, .ref x5, .int (nI ac), .ref x7, .ref x8, .ref x9, .ref x10, .ref x11, .int (nI sp), .int (nI ou)])), (x3, .inl (eI E, 255, .inl g))] [(0, .ref hM), (1, .int n), (2, .int w)] [] 0
  refine r_aload_n C (i := 0) 0 dX6_night_0 rfl rfl ?_
  refine r_iload_n C (i := 1) 1 dX6_night_1 rfl rfl ?_
  refine r_readS (rest := [.ref hM]) C (c_X6_isNight__r (x := n) ) lk_X6_isNight w_5_185 [] dX6_night_2 rfl rfl rfl ⟨by decide, by decide⟩ (Nat.le_of_ble_eq_true rfl) (st' := [.int (bP (vI n 20)), .ref hM]) rfl ?_
  refine r_if_ne C (y := 0) (c9 := vI n 20) 12 dX6_night_5 (by decide) z_neB (fun h5_1 => ?_) (fun h5_1 => ?_)
  · refine r_iload_n C (i := 2) 2 dX6_night_12 rfl rfl ?_
    refine r_i2l (v := (w).toInt64) C dX6_night_13 rfl ?_
    refine r_lconst (v := lN 0) C dX6_night_14 (by decide +kernel) ?_
    refine r_ldc2 (v := lN 4) C dX6_night_15 w_6_25 ?_
    refine r_readS (rest := [.ref hM]) C (c_X6_in (v := (w).toInt64) (lw := lN 0) (hg := lN 4)) lk_X6_in w_5_113 [] dX6_night_18 rfl rfl rfl ⟨by decide, by decide⟩ (Nat.le_of_ble_eq_true rfl) (st' := [.int (bP (lN 0 ≤ (w).toInt64 ∧ (w).toInt64 ≤ lN 4)), .ref hM]) rfl ?_
    refine r_st (st' := [.int (bP (vI w (5))), .ref hM]) (by rw [bP_c (in_r (by omega))]) ?_
    refine r_if_eq C (y := 0) (c9 := ¬ (vI w (5))) 28 dX6_night_21 (by decide) z_eqB (fun h21_2 => ?_) (fun h21_2 => ?_)
    · refine r_iconst C dX6_night_28 ki_2 ?_
      first | (exfalso; omega) | (exfalso; simp_all; done)
    · replace h21_2 : vI w (5) := Decidable.not_not.mp h21_2
      refine r_iconst C dX6_night_24 ki_0 ?_
      refine r_goto C 29 dX6_night_25 (by decide) ?_
      first | (exfalso; omega) | (exfalso; simp_all; done)
  · refine r_iconst C dX6_night_8 ki_1 ?_
    refine r_goto C 29 dX6_night_9 (by decide) ?_
    refine r_callV (rest := []) C (c_X6_refused (hM := hM) (rf := rf) (x1 := x1) (sz := sz) (x3 := x3) (x4 := x4) (x5 := x5) (ac := ac) (x7 := x7) (x8 := x8) (x9 := x9) (x10 := x10) (x11 := x11) (sp := sp) (ou := ou) (w := 1) (hw := (by omega))) lk_X6_refused w_5_116 [0] rfl dX6_night_29 rfl rfl rfl rfl ⟨by decide, by decide⟩ (Nat.le_of_ble_eq_true rfl) ?_
    rintro _ _ ⟨rfl, rfl⟩
    show ω [(hM, .inr (6, [.int (nI 1), .ref x1, .int (nI sz), .ref x3, .ref x4, .ref x5, .int (nI ac), .ref x7, .ref x8, .ref x9, .ref x10, .ref x11, .int (nI sp), .int (nI ou)])), (x3, .inl (eI E, 255, .inl g))] [(0, .ref hM), (1, .int n), (2, .int w)] [.int (bP (0 < 1))] 32
    refine r_if_eqF C (y := 0) (tgt := 37) dX6_night_32 (by decide) (fun z => ((by decide) : ¬ (¬ (0 < 1))) (z_eqB.mp z)) ?_
    refine r_iconst C dX6_night_35 ki_0 ?_
    exact RT.1 _ _ _ _ _ dX6_night_36 rfl rfl (⟨rfl, rfl⟩) rfl
set_option maxRecDepth 100000 in
set_option maxHeartbeats 1000000 in
theorem c_X6_night__x2 {l : Launch} {E : Ev} {hM rf x1 sz x3 x4 x5 ac x7 x8 x9 x10 x11 sp ou : Nat} {g : Nat → Int32} {σ : Sg} (hR : RepM σ g) (hW : Wf σ) {n : Nat} {w : Int32} (hn : n < 20) (hx : ¬ vI w 5) : Ct l E yX6_night cX6_night 9 (some FieldType.int) 5 123 [.ref hM, .int (nI n), .int w] [(hM, .inr (6, [.int (nI rf), .ref x1, .int (nI sz), .ref x3, .ref x4, .ref x5, .int (nI ac), .ref x7, .ref x8, .ref x9, .ref x10, .ref x11, .int (nI sp), .int (nI ou)])), (x3, .inl (eI E, 255, .inl g))] (fun v9 w9 => v9 = some (.int (nI 0)) ∧ w9 = [(hM, .inr (6, [.int (nI 2), .ref x1, .int (nI sz), .ref x3, .ref x4, .ref x5, .int (nI ac), .ref x7, .ref x8, .ref x9, .ref x10, .ref x11, .int (nI sp), .int (nI ou)])), (x3, .inl (eI E, 255, .inl g))]) := by
  have hwP := hW.P
  have hwA := hW.A
  have hwS := hW.S
  refine ct_of (by decide +kernel) (Nat.le_of_ble_eq_true rfl) (fun ω C RT => ?_)
  show ω [(hM, .inr (6, [.int (nI rf), .ref x1, .int (nI sz), .ref x3, .ref x4, .ref x5, .int (nI ac), .ref x7, .ref x8, .ref x9, .ref x10, .ref x11, .int (nI sp), .int (nI ou)])), (x3, .inl (eI E, 255, .inl g))] [(0, .ref hM), (1, .int (nI n)), (2, .int w)] [] 0
  refine r_aload_n C (i := 0) 0 dX6_night_0 rfl rfl ?_
  refine r_iload_n C (i := 1) 1 dX6_night_1 rfl rfl ?_
  refine r_readS (rest := [.ref hM]) C (c_X6_isNight (i := n) (hi := (by omega))) lk_X6_isNight w_5_185 [] dX6_night_2 rfl rfl rfl ⟨by decide, by decide⟩ (Nat.le_of_ble_eq_true rfl) (st' := [.int (bP (n ≤ 19)), .ref hM]) rfl ?_
  refine r_if_ne C (y := 0) (c9 := n ≤ 19) 12 dX6_night_5 (by decide) z_neB (fun h5_1 => ?_) (fun h5_1 => ?_)
  · refine r_iload_n C (i := 2) 2 dX6_night_12 rfl rfl ?_
    refine r_i2l (v := (w).toInt64) C dX6_night_13 rfl ?_
    refine r_lconst (v := lN 0) C dX6_night_14 (by decide +kernel) ?_
    refine r_ldc2 (v := lN 4) C dX6_night_15 w_6_25 ?_
    refine r_readS (rest := [.ref hM]) C (c_X6_in (v := (w).toInt64) (lw := lN 0) (hg := lN 4)) lk_X6_in w_5_113 [] dX6_night_18 rfl rfl rfl ⟨by decide, by decide⟩ (Nat.le_of_ble_eq_true rfl) (st' := [.int (bP (lN 0 ≤ (w).toInt64 ∧ (w).toInt64 ≤ lN 4)), .ref hM]) rfl ?_
    refine r_st (st' := [.int (bP (vI w (5))), .ref hM]) (by rw [bP_c (in_r (by omega))]) ?_
    refine r_if_eq C (y := 0) (c9 := ¬ (vI w (5))) 28 dX6_night_21 (by decide) z_eqB (fun h21_2 => ?_) (fun h21_2 => ?_)
    · refine r_iconst C dX6_night_28 ki_2 ?_
      refine r_callV (rest := []) C (c_X6_refused (hM := hM) (rf := rf) (x1 := x1) (sz := sz) (x3 := x3) (x4 := x4) (x5 := x5) (ac := ac) (x7 := x7) (x8 := x8) (x9 := x9) (x10 := x10) (x11 := x11) (sp := sp) (ou := ou) (w := 2) (hw := (by omega))) lk_X6_refused w_5_116 [0] rfl dX6_night_29 rfl rfl rfl rfl ⟨by decide, by decide⟩ (Nat.le_of_ble_eq_true rfl) ?_
      rintro _ _ ⟨rfl, rfl⟩
      show ω [(hM, .inr (6, [.int (nI 2), .ref x1, .int (nI sz), .ref x3, .ref x4, .ref x5, .int (nI ac), .ref x7, .ref x8, .ref x9, .ref x10, .ref x11, .int (nI sp), .int (nI ou)])), (x3, .inl (eI E, 255, .inl g))] [(0, .ref hM), (1, .int (nI n)), (2, .int w)] [.int (bP (0 < 2))] 32
      refine r_if_eqF C (y := 0) (tgt := 37) dX6_night_32 (by decide) (fun z => ((by decide) : ¬ (¬ (0 < 2))) (z_eqB.mp z)) ?_
      refine r_iconst C dX6_night_35 ki_0 ?_
      exact RT.1 _ _ _ _ _ dX6_night_36 rfl rfl (⟨rfl, rfl⟩) rfl
    · replace h21_2 : vI w (5) := Decidable.not_not.mp h21_2
      refine r_iconst C dX6_night_24 ki_0 ?_
      refine r_goto C 29 dX6_night_25 (by decide) ?_
      first | (exfalso; omega) | (exfalso; simp_all; done)
  · refine r_iconst C dX6_night_8 ki_1 ?_
    refine r_goto C 29 dX6_night_9 (by decide) ?_
    first | (exfalso; omega) | (exfalso; simp_all; done)
set_option maxRecDepth 100000 in
set_option maxHeartbeats 1000000 in
theorem c_X6_actor {l : Launch} {E : Ev} {hM rf x1 sz x3 x4 x5 ac x7 x8 x9 x10 x11 sp ou : Nat} {t1 t2 t3 : Nat → Int32} {g : Nat → Int32} {σ : Sg} (hR : RepM σ g) (hW : Wf σ) {a w : Nat} (ha : a < sA σ) (hw : w < 6) : Ct l E yX6_actor cX6_actor 9 (some FieldType.int) 5 123 [.ref hM, .int (nI a), .int (nI w)] [(hM, .inr (6, [.int (nI rf), .ref x1, .int (nI sz), .ref x3, .ref x4, .ref x5, .int (nI ac), .ref x7, .ref x8, .ref x9, .ref x10, .ref x11, .int (nI sp), .int (nI ou)])), (x9, .inl (eI E, 6, .inl t1)), (x10, .inl (eI E, 6, .inl t2)), (x11, .inl (eI E, 6, .inl t3)), (x3, .inl (eI E, 255, .inl g))] (fun v9 w9 => ∃ ta tb tc : Nat → Int32, v9 = some (.int (aActor σ a w)) ∧ w9 = [(hM, .inr (6, [.int (nI 0), .ref x1, .int (nI sz), .ref x3, .ref x4, .ref x5, .int (nI ac), .ref x7, .ref x8, .ref x9, .ref x10, .ref x11, .int (nI sp), .int (nI ou)])), (x9, .inl (eI E, 6, .inl ta)), (x10, .inl (eI E, 6, .inl tb)), (x11, .inl (eI E, 6, .inl tc)), (x3, .inl (eI E, 255, .inl g))]) := by
  have hwP := hW.P
  have hwA := hW.A
  have hwS := hW.S
  have hblm := bmM_lt hW a
  refine ct_of (by decide +kernel) (Nat.le_of_ble_eq_true rfl) (fun ω C RT => ?_)
  show ω [(hM, .inr (6, [.int (nI rf), .ref x1, .int (nI sz), .ref x3, .ref x4, .ref x5, .int (nI ac), .ref x7, .ref x8, .ref x9, .ref x10, .ref x11, .int (nI sp), .int (nI ou)])), (x9, .inl (eI E, 6, .inl t1)), (x10, .inl (eI E, 6, .inl t2)), (x11, .inl (eI E, 6, .inl t3)), (x3, .inl (eI E, 255, .inl g))] [(0, .ref hM), (1, .int (nI a)), (2, .int (nI w))] [] 0
  refine r_aload_n C (i := 0) 0 dX6_actor_0 rfl rfl ?_
  refine r_aload_n C (i := 0) 0 dX6_actor_1 rfl rfl ?_
  refine r_get C 0 3 uX6 rfl rfl (by decide) w_5_64 rfl dX6_actor_2 ?_
  refine r_iload_n C (i := 1) 1 dX6_actor_5 rfl rfl ?_
  refine r_readS (rest := [.ref hM]) C (c_X6_isActor (r := x3) (g := g) (σ := σ) (i := a) (hR := hR) (hW := hW) (hi := (by omega))) lk_X6_isActor w_5_154 [4] dX6_actor_6 rfl rfl rfl ⟨by decide, by decide⟩ (Nat.le_of_ble_eq_true rfl) (st' := [.int (bP (a < sA σ)), .ref hM]) rfl ?_
  refine r_if_ne C (y := 0) (c9 := a < sA σ) 16 dX6_actor_9 (by decide) z_neB (fun h9_1 => ?_) (fun h9_1 => ?_)
  · refine r_iload_n C (i := 2) 2 dX6_actor_16 rfl rfl ?_
    refine r_i2l (v := lN w) C dX6_actor_17 (v_i2l (by omega)) ?_
    refine r_lconst (v := lN 0) C dX6_actor_18 (by decide +kernel) ?_
    refine r_ldc2 (v := lN 5) C dX6_actor_19 w_6_30 ?_
    refine r_readS (rest := [.ref hM]) C (c_X6_in (v := lN w) (lw := lN 0) (hg := lN 5)) lk_X6_in w_5_113 [] dX6_actor_22 rfl rfl rfl ⟨by decide, by decide⟩ (Nat.le_of_ble_eq_true rfl) (st' := [.int (bP (lN 0 ≤ lN w ∧ lN w ≤ lN 5)), .ref hM]) rfl ?_
    refine r_st (st' := [.int (bP (w ≤ 5)), .ref hM]) (by rw [bP_c (in_N (by omega) (by omega))]) ?_
    refine r_if_eq C (y := 0) (c9 := ¬ (w ≤ 5)) 32 dX6_actor_25 (by decide) z_eqB (fun h25_2 => ?_) (fun h25_2 => ?_)
    · refine r_iconst C dX6_actor_32 ki_2 ?_
      first | (exfalso; omega) | (exfalso; simp_all; done)
    · replace h25_2 : w ≤ 5 := Decidable.not_not.mp h25_2
      refine r_iconst C dX6_actor_28 ki_0 ?_
      refine r_goto C 33 dX6_actor_29 (by decide) ?_
      refine r_callV (rest := []) C (c_X6_refused (hM := hM) (rf := rf) (x1 := x1) (sz := sz) (x3 := x3) (x4 := x4) (x5 := x5) (ac := ac) (x7 := x7) (x8 := x8) (x9 := x9) (x10 := x10) (x11 := x11) (sp := sp) (ou := ou) (w := 0) (hw := (by omega))) lk_X6_refused w_5_116 [0] rfl dX6_actor_33 rfl rfl rfl rfl ⟨by decide, by decide⟩ (Nat.le_of_ble_eq_true rfl) ?_
      rintro _ _ ⟨rfl, rfl⟩
      show ω [(hM, .inr (6, [.int (nI 0), .ref x1, .int (nI sz), .ref x3, .ref x4, .ref x5, .int (nI ac), .ref x7, .ref x8, .ref x9, .ref x10, .ref x11, .int (nI sp), .int (nI ou)])), (x9, .inl (eI E, 6, .inl t1)), (x10, .inl (eI E, 6, .inl t2)), (x11, .inl (eI E, 6, .inl t3)), (x3, .inl (eI E, 255, .inl g))] [(0, .ref hM), (1, .int (nI a)), (2, .int (nI w))] [.int (bP (0 < 0))] 36
      refine r_if_eqT C (y := 0) 41 dX6_actor_36 (by decide) (z_eqB.mpr (by decide)) ?_
      refine r_iconst C dX6_actor_41 ki_0 ?_
      refine r_istore_n C (lv' := [(3, .int (nI 0)), (0, .ref hM), (1, .int (nI a)), (2, .int (nI w))]) dX6_actor_42 rfl (by decide) rfl ?_
      refine r_iconst C dX6_actor_43 ki_m1 ?_
      refine r_istore C (lv' := [(4, .int (mI 0)), (3, .int (nI 0)), (0, .ref hM), (1, .int (nI a)), (2, .int (nI w))]) dX6_actor_44 (by decide) rfl ?_
      refine r_iconst C dX6_actor_46 ki_m1 ?_
      refine r_istore C (lv' := [(5, .int (mI 0)), (4, .int (mI 0)), (3, .int (nI 0)), (0, .ref hM), (1, .int (nI a)), (2, .int (nI w))]) dX6_actor_47 (by decide) rfl ?_
      refine r_iconst C dX6_actor_49 ki_0 ?_
      refine r_istore C (lv' := [(6, .int (nI 0)), (5, .int (mI 0)), (4, .int (mI 0)), (3, .int (nI 0)), (0, .ref hM), (1, .int (nI a)), (2, .int (nI w))]) dX6_actor_50 (by decide) rfl ?_
      refine r_iconst C dX6_actor_52 ki_0 ?_
      refine r_istore C (lv' := [(7, .int (nI 0)), (6, .int (nI 0)), (5, .int (mI 0)), (4, .int (mI 0)), (3, .int (nI 0)), (0, .ref hM), (1, .int (nI a)), (2, .int (nI w))]) dX6_actor_53 (by decide) rfl ?_
      have loop55_3 : ∀ (dd9 : Nat) (k : Nat) (m : Nat) (f : Nat) (l : Nat) (pa : Nat) (s1 : Nat → Int32) (s2 : Nat → Int32) (s3 : Nat → Int32), 20 - k < dd9 → (k ≤ 20) → (m = pcN σ a k) → (f = pfN σ a k) → (l = plN σ a k) → (pa = paN σ a k) → ω [(hM, .inr (6, [.int (nI 0), .ref x1, .int (nI sz), .ref x3, .ref x4, .ref x5, .int (nI ac), .ref x7, .ref x8, .ref x9, .ref x10, .ref x11, .int (nI sp), .int (nI ou)])), (x9, .inl (eI E, 6, .inl s1)), (x10, .inl (eI E, 6, .inl s2)), (x11, .inl (eI E, 6, .inl s3)), (x3, .inl (eI E, 255, .inl g))] [(7, .int (nI k)), (6, .int (nI pa)), (5, .int (mI l)), (4, .int (mI f)), (3, .int (nI m)), (0, .ref hM), (1, .int (nI a)), (2, .int (nI w))] [] 55 := by
        intro dd9
        induction dd9 with
        | zero => intro k m f l pa s1 s2 s3 hd; exact absurd hd (Nat.not_lt_zero _)
        | succ dd9 ih4 =>
          intro k m f l pa s1 s2 s3 hd hk hc hf hl hpa
          have hml := pcN_le σ a k
          have hfl : f ≤ k := by rw [hf]; exact pfN_le σ a k
          have hll : l ≤ k := by rw [hl]; exact plN_le σ a k
          have hpl : pa < 64 := by rw [hpa]; exact paN_lt hW a k
          have hyl := ply_le σ k a
          refine r_iload C (i := 7) 0 dX6_actor_55 rfl ?_
          refine r_bipush C dX6_actor_57 kb_20 ?_
          refine r_icmp_ge C (c9 := 20 ≤ k) 150 dX6_actor_59 (by decide) (c_leNN (by omega) (by omega)) (fun h59_5 => ?_) (fun h59_5 => ?_)
          · refine r_iload_n C (i := 2) 7 dX6_actor_150 rfl rfl ?_
            refine r_if_ne C (y := 0) (c9 := w ≠ 0) 165 dX6_actor_151 (by decide) (z_neN (by omega)) (fun h151_6 => ?_) (fun h151_6 => ?_)
            · refine r_iload_n C (i := 2) 7 dX6_actor_165 rfl rfl ?_
              refine r_iconst C dX6_actor_166 ki_1 ?_
              refine r_icmp_ne C (c9 := w ≠ 1) 174 dX6_actor_167 (by decide) (c_neNN (by omega) (by omega)) (fun h167_7 => ?_) (fun h167_7 => ?_)
              · refine r_iload_n C (i := 2) 7 dX6_actor_174 rfl rfl ?_
                refine r_iconst C dX6_actor_175 ki_2 ?_
                refine r_icmp_ne C (c9 := w ≠ 2) 184 dX6_actor_176 (by decide) (c_neNN (by omega) (by omega)) (fun h176_8 => ?_) (fun h176_8 => ?_)
                · refine r_iload_n C (i := 2) 7 dX6_actor_184 rfl rfl ?_
                  refine r_iconst C dX6_actor_185 ki_3 ?_
                  refine r_icmp_ne C (c9 := w ≠ 3) 194 dX6_actor_186 (by decide) (c_neNN (by omega) (by omega)) (fun h186_9 => ?_) (fun h186_9 => ?_)
                  · refine r_iload_n C (i := 2) 7 dX6_actor_194 rfl rfl ?_
                    refine r_iconst C dX6_actor_195 ki_4 ?_
                    refine r_icmp_ne C (c9 := w ≠ 4) 204 dX6_actor_196 (by decide) (c_neNN (by omega) (by omega)) (fun h196_10 => ?_) (fun h196_10 => ?_)
                    · refine r_aload_n C (i := 0) 5 dX6_actor_204 rfl rfl ?_
                      refine r_get C 0 3 uX6 rfl rfl (by decide) w_5_64 rfl dX6_actor_205 ?_
                      refine r_bipush C dX6_actor_208 kb_15 ?_
                      refine r_iload_n C (i := 1) 6 dX6_actor_210 rfl rfl ?_
                      refine r_iadd (v := nI (15 + a)) C dX6_actor_211 (nI_add _ _) ?_
                      refine r_iald (j := 15 + a) (v := nI (bm (fun n => sI σ a n) 20)) C 4 rfl (by omega) (by decide) (hR.I ha) dX6_actor_212 ?_
                      refine r_readS (rest := []) C (c_X6_count (s := bm (fun n => sI σ a n) 20) (hs := (by omega))) lk_X6_count w_5_175 [] dX6_actor_213 rfl rfl rfl ⟨by decide, by decide⟩ (Nat.le_of_ble_eq_true rfl) (st' := [.int (nI (cb (bm (fun n => sI σ a n) 20) 20))]) rfl ?_
                      exact RT.1 _ _ _ _ _ dX6_actor_216 rfl rfl (⟨_, _, _, sv (by rw [aActor, if_neg (by omega), if_neg (by omega), if_neg (by omega), if_neg (by omega), if_neg (by omega), cb_I hW a (Nat.le_refl 20)]), rfl⟩) rfl
                    · refine r_iload C (i := 6) 1 dX6_actor_199 rfl ?_
                      refine r_goto C 216 dX6_actor_201 (by decide) ?_
                      exact RT.1 _ _ _ _ _ dX6_actor_216 rfl rfl (⟨_, _, _, sv (by rw [aActor, if_neg (by omega), if_neg (by omega), if_neg (by omega), if_neg (by omega), if_pos (by omega), hpa, (by omega : k = 20)]), rfl⟩) rfl
                  · refine r_iload C (i := 5) 2 dX6_actor_189 rfl ?_
                    refine r_goto C 216 dX6_actor_191 (by decide) ?_
                    exact RT.1 _ _ _ _ _ dX6_actor_216 rfl rfl (⟨_, _, _, sv (by rw [aActor, if_neg (by omega), if_neg (by omega), if_neg (by omega), if_pos (by omega), hl, (by omega : k = 20)]), rfl⟩) rfl
                · refine r_iload C (i := 4) 3 dX6_actor_179 rfl ?_
                  refine r_goto C 216 dX6_actor_181 (by decide) ?_
                  exact RT.1 _ _ _ _ _ dX6_actor_216 rfl rfl (⟨_, _, _, sv (by rw [aActor, if_neg (by omega), if_neg (by omega), if_pos (by omega), hf, (by omega : k = 20)]), rfl⟩) rfl
              · refine r_iload_n C (i := 3) 4 dX6_actor_170 rfl rfl ?_
                refine r_goto C 216 dX6_actor_171 (by decide) ?_
                exact RT.1 _ _ _ _ _ dX6_actor_216 rfl rfl (⟨_, _, _, sv (by rw [aActor, if_neg (by omega), if_pos (by omega), hc, (by omega : k = 20)]), rfl⟩) rfl
            · refine r_aload_n C (i := 0) 5 dX6_actor_154 rfl rfl ?_
              refine r_get C 0 3 uX6 rfl rfl (by decide) w_5_64 rfl dX6_actor_155 ?_
              refine r_iconst C dX6_actor_158 ki_5 ?_
              refine r_iload_n C (i := 1) 6 dX6_actor_159 rfl rfl ?_
              refine r_iadd (v := nI (5 + a)) C dX6_actor_160 (nI_add _ _) ?_
              refine r_iald (j := 5 + a) (v := nI (sF σ a)) C 4 rfl (by omega) (by decide) (hR.F ha) dX6_actor_161 ?_
              refine r_goto C 216 dX6_actor_162 (by decide) ?_
              exact RT.1 _ _ _ _ _ dX6_actor_216 rfl rfl (⟨_, _, _, sv (by rw [aActor, if_pos (by omega)]), rfl⟩) rfl
          · refine r_aload_n C (i := 0) 5 dX6_actor_62 rfl rfl ?_
            refine r_aload_n C (i := 0) 5 dX6_actor_63 rfl rfl ?_
            refine r_get C 0 3 uX6 rfl rfl (by decide) w_5_64 rfl dX6_actor_64 ?_
            refine r_iload C (i := 7) 0 dX6_actor_67 rfl ?_
            refine r_iload_n C (i := 1) 6 dX6_actor_69 rfl rfl ?_
            refine r_callV (rest := []) C (c_X6_plays (hM := hM) (rf := 0) (x1 := x1) (sz := sz) (x3 := x3) (x4 := x4) (x5 := x5) (ac := ac) (x7 := x7) (x8 := x8) (x9 := x9) (x10 := x10) (x11 := x11) (sp := sp) (ou := ou) (t1 := s1) (t2 := s2) (t3 := s3) (r := x3) (g := g) (σ := σ) (n := k) (a := a) (hR := hR) (hW := hW) (hn := (by omega)) (ha := (by omega))) lk_X6_plays w_6_31 [0, 1, 2, 3, 4] rfl dX6_actor_70 rfl rfl rfl rfl ⟨by decide, by decide⟩ (Nat.le_of_ble_eq_true rfl) ?_
            rintro _ _ ⟨ta_11, tb_12, tc_13, rfl, rfl⟩
            show ω [(hM, .inr (6, [.int (nI 0), .ref x1, .int (nI sz), .ref x3, .ref x4, .ref x5, .int (nI ac), .ref x7, .ref x8, .ref x9, .ref x10, .ref x11, .int (nI sp), .int (nI ou)])), (x9, .inl (eI E, 6, .inl ta_11)), (x10, .inl (eI E, 6, .inl tb_12)), (x11, .inl (eI E, 6, .inl tc_13)), (x3, .inl (eI E, 255, .inl g))] [(7, .int (nI k)), (6, .int (nI pa)), (5, .int (mI l)), (4, .int (mI f)), (3, .int (nI m)), (0, .ref hM), (1, .int (nI a)), (2, .int (nI w))] [.int (mI (ply σ k a))] 73
            refine r_istore C (lv' := [(8, .int (mI (ply σ k a))), (7, .int (nI k)), (6, .int (nI pa)), (5, .int (mI l)), (4, .int (mI f)), (3, .int (nI m)), (0, .ref hM), (1, .int (nI a)), (2, .int (nI w))]) dX6_actor_73 (by decide) rfl ?_
            refine r_iload_n C (i := 3) 5 dX6_actor_75 rfl rfl ?_
            refine r_iload C (i := 8) 0 dX6_actor_76 rfl ?_
            refine r_iconst C dX6_actor_78 ki_m1 ?_
            refine r_icmp_ne C (c9 := ply σ k a ≠ 0) 86 dX6_actor_79 (by decide) (c_neMM (by omega) (by omega)) (fun h79_14 => ?_) (fun h79_14 => ?_)
            · refine r_iconst C dX6_actor_86 ki_1 ?_
              refine r_iadd (v := nI (m + 1)) C dX6_actor_87 (nI_add _ _) ?_
              refine r_istore_n C (lv' := [(3, .int (nI (m + 1))), (8, .int (mI (ply σ k a))), (7, .int (nI k)), (6, .int (nI pa)), (5, .int (mI l)), (4, .int (mI f)), (0, .ref hM), (1, .int (nI a)), (2, .int (nI w))]) dX6_actor_88 rfl (by decide) rfl ?_
              refine r_iload C (i := 8) 1 dX6_actor_89 rfl ?_
              refine r_iconst C dX6_actor_91 ki_m1 ?_
              refine r_icmp_eqF C (tgt := 106) dX6_actor_92 (by decide) (fun z => ((by omega) : ¬ (ply σ k a = 0)) ((c_eqMM (by omega) (by omega)).mp z)) ?_
              refine r_iload C (i := 4) 5 dX6_actor_95 rfl ?_
              refine r_iconst C dX6_actor_97 ki_m1 ?_
              refine r_icmp_ne C (c9 := f ≠ 0) 106 dX6_actor_98 (by decide) (c_neMM (by omega) (by omega)) (fun h98_15 => ?_) (fun h98_15 => ?_)
              · refine r_iload C (i := 4) 5 dX6_actor_106 rfl ?_
                refine r_istore C (lv' := [(4, .int (mI f)), (3, .int (nI (m + 1))), (8, .int (mI (ply σ k a))), (7, .int (nI k)), (6, .int (nI pa)), (5, .int (mI l)), (0, .ref hM), (1, .int (nI a)), (2, .int (nI w))]) dX6_actor_108 (by decide) rfl ?_
                refine r_iload C (i := 8) 2 dX6_actor_110 rfl ?_
                refine r_iconst C dX6_actor_112 ki_m1 ?_
                refine r_icmp_neT C 121 dX6_actor_113 (by decide) ((c_neMM (by omega) (by omega)).mpr h79_14) ?_
                refine r_iload C (i := 7) 3 dX6_actor_121 rfl ?_
                refine r_istore C (lv' := [(5, .int (nI k)), (4, .int (mI f)), (3, .int (nI (m + 1))), (8, .int (mI (ply σ k a))), (7, .int (nI k)), (6, .int (nI pa)), (0, .ref hM), (1, .int (nI a)), (2, .int (nI w))]) dX6_actor_123 (by decide) rfl ?_
                refine r_lo (lv' := [(5, .int (nI k)), (4, .int (mI f)), (3, .int (nI (m + 1))), (8, .int (nI (ply σ k a - 1))), (7, .int (nI k)), (6, .int (nI pa)), (0, .ref hM), (1, .int (nI a)), (2, .int (nI w))]) (by rw [show ply σ k a = ply σ k a - 1 + 1 from by omega, mI_s, Nat.add_sub_cancel]) ?_
                refine r_iload C (i := 6) 5 dX6_actor_125 rfl ?_
                refine r_iload C (i := 8) 3 dX6_actor_127 rfl ?_
                refine r_iconst C dX6_actor_129 ki_m1 ?_
                refine r_icmp_neT C 137 dX6_actor_130 (by decide) ((c_neNM (by omega) (by omega)).mpr (by omega)) ?_
                refine r_iconst C dX6_actor_137 ki_1 ?_
                refine r_iload C (i := 8) 3 dX6_actor_138 rfl ?_
                refine r_ishl (v := nI (2 ^ (ply σ k a - 1))) C dX6_actor_140 (v_shl (by omega)) ?_
                refine r_ior (v := nI (pa ||| (2 ^ (ply σ k a - 1)))) C dX6_actor_141 (v_or _ _) ?_
                refine r_istore C (lv' := [(6, .int (nI (pa ||| (2 ^ (ply σ k a - 1))))), (5, .int (nI k)), (4, .int (mI f)), (3, .int (nI (m + 1))), (8, .int (nI (ply σ k a - 1))), (7, .int (nI k)), (0, .ref hM), (1, .int (nI a)), (2, .int (nI w))]) dX6_actor_142 (by decide) rfl ?_
                refine r_iinc C (lv' := [(7, .int (nI (k + 1))), (6, .int (nI (pa ||| (2 ^ (ply σ k a - 1))))), (5, .int (nI k)), (4, .int (mI f)), (3, .int (nI (m + 1))), (8, .int (nI (ply σ k a - 1))), (0, .ref hM), (1, .int (nI a)), (2, .int (nI w))]) (v := nI (k + 1)) 5 dX6_actor_144 rfl (v_inc _) (by decide) rfl ?_
                refine r_goto C 55 dX6_actor_147 (by decide) ?_
                refine r_lo (lv' := [(7, .int (nI (k + 1))), (6, .int (nI (pa ||| (2 ^ (ply σ k a - 1))))), (5, .int (mI (k + 1))), (4, .int (mI f)), (3, .int (nI (m + 1))), (8, .int (nI (ply σ k a - 1))), (0, .ref hM), (1, .int (nI a)), (2, .int (nI w))]) (by rw [mI_s]) ?_
                refine r_lv (lv' := [(7, .int (nI (k + 1))), (6, .int (nI (pa ||| (2 ^ (ply σ k a - 1))))), (5, .int (mI (k + 1))), (4, .int (mI f)), (3, .int (nI (m + 1))), (0, .ref hM), (1, .int (nI a)), (2, .int (nI w))]) C [0, 1, 2, 3, 4, 6, 7, 8] rfl ?_
                exact ih4 (k + 1) (m + 1) f (k + 1) (pa ||| (2 ^ (ply σ k a - 1))) ta_11 tb_12 tc_13 (by omega) (by omega) (by rw [pcN, hc, if_neg (by omega)]) (by rw [pfN, ← hf, if_neg (by omega)]) (by rw [plN, if_neg (by omega)]) (by rw [paN, if_neg (by omega), hpa])
              · refine r_iload C (i := 7) 2 dX6_actor_101 rfl ?_
                refine r_goto C 108 dX6_actor_103 (by decide) ?_
                refine r_istore C (lv' := [(4, .int (nI k)), (3, .int (nI (m + 1))), (8, .int (mI (ply σ k a))), (7, .int (nI k)), (6, .int (nI pa)), (5, .int (mI l)), (0, .ref hM), (1, .int (nI a)), (2, .int (nI w))]) dX6_actor_108 (by decide) rfl ?_
                refine r_iload C (i := 8) 2 dX6_actor_110 rfl ?_
                refine r_iconst C dX6_actor_112 ki_m1 ?_
                refine r_icmp_neT C 121 dX6_actor_113 (by decide) ((c_neMM (by omega) (by omega)).mpr h79_14) ?_
                refine r_iload C (i := 7) 3 dX6_actor_121 rfl ?_
                refine r_istore C (lv' := [(5, .int (nI k)), (4, .int (nI k)), (3, .int (nI (m + 1))), (8, .int (mI (ply σ k a))), (7, .int (nI k)), (6, .int (nI pa)), (0, .ref hM), (1, .int (nI a)), (2, .int (nI w))]) dX6_actor_123 (by decide) rfl ?_
                refine r_lo (lv' := [(5, .int (nI k)), (4, .int (nI k)), (3, .int (nI (m + 1))), (8, .int (nI (ply σ k a - 1))), (7, .int (nI k)), (6, .int (nI pa)), (0, .ref hM), (1, .int (nI a)), (2, .int (nI w))]) (by rw [show ply σ k a = ply σ k a - 1 + 1 from by omega, mI_s, Nat.add_sub_cancel]) ?_
                refine r_iload C (i := 6) 5 dX6_actor_125 rfl ?_
                refine r_iload C (i := 8) 3 dX6_actor_127 rfl ?_
                refine r_iconst C dX6_actor_129 ki_m1 ?_
                refine r_icmp_neT C 137 dX6_actor_130 (by decide) ((c_neNM (by omega) (by omega)).mpr (by omega)) ?_
                refine r_iconst C dX6_actor_137 ki_1 ?_
                refine r_iload C (i := 8) 3 dX6_actor_138 rfl ?_
                refine r_ishl (v := nI (2 ^ (ply σ k a - 1))) C dX6_actor_140 (v_shl (by omega)) ?_
                refine r_ior (v := nI (pa ||| (2 ^ (ply σ k a - 1)))) C dX6_actor_141 (v_or _ _) ?_
                refine r_istore C (lv' := [(6, .int (nI (pa ||| (2 ^ (ply σ k a - 1))))), (5, .int (nI k)), (4, .int (nI k)), (3, .int (nI (m + 1))), (8, .int (nI (ply σ k a - 1))), (7, .int (nI k)), (0, .ref hM), (1, .int (nI a)), (2, .int (nI w))]) dX6_actor_142 (by decide) rfl ?_
                refine r_iinc C (lv' := [(7, .int (nI (k + 1))), (6, .int (nI (pa ||| (2 ^ (ply σ k a - 1))))), (5, .int (nI k)), (4, .int (nI k)), (3, .int (nI (m + 1))), (8, .int (nI (ply σ k a - 1))), (0, .ref hM), (1, .int (nI a)), (2, .int (nI w))]) (v := nI (k + 1)) 5 dX6_actor_144 rfl (v_inc _) (by decide) rfl ?_
                refine r_goto C 55 dX6_actor_147 (by decide) ?_
                refine r_lo (lv' := [(7, .int (nI (k + 1))), (6, .int (nI (pa ||| (2 ^ (ply σ k a - 1))))), (5, .int (nI k)), (4, .int (mI (k + 1))), (3, .int (nI (m + 1))), (8, .int (nI (ply σ k a - 1))), (0, .ref hM), (1, .int (nI a)), (2, .int (nI w))]) (by rw [mI_s]) ?_
                refine r_lo (lv' := [(7, .int (nI (k + 1))), (6, .int (nI (pa ||| (2 ^ (ply σ k a - 1))))), (5, .int (mI (k + 1))), (4, .int (mI (k + 1))), (3, .int (nI (m + 1))), (8, .int (nI (ply σ k a - 1))), (0, .ref hM), (1, .int (nI a)), (2, .int (nI w))]) (by rw [mI_s]) ?_
                refine r_lv (lv' := [(7, .int (nI (k + 1))), (6, .int (nI (pa ||| (2 ^ (ply σ k a - 1))))), (5, .int (mI (k + 1))), (4, .int (mI (k + 1))), (3, .int (nI (m + 1))), (0, .ref hM), (1, .int (nI a)), (2, .int (nI w))]) C [0, 1, 2, 3, 4, 6, 7, 8] rfl ?_
                exact ih4 (k + 1) (m + 1) (k + 1) (k + 1) (pa ||| (2 ^ (ply σ k a - 1))) ta_11 tb_12 tc_13 (by omega) (by omega) (by rw [pcN, hc, if_neg (by omega)]) (by rw [pfN, ← hf, if_pos (by omega)]) (by rw [plN, if_neg (by omega)]) (by rw [paN, if_neg (by omega), hpa])
            · refine r_iconst C dX6_actor_82 ki_0 ?_
              refine r_goto C 87 dX6_actor_83 (by decide) ?_
              refine r_iadd (v := nI (m + 0)) C dX6_actor_87 (nI_add _ _) ?_
              refine r_istore_n C (lv' := [(3, .int (nI (m + 0))), (8, .int (mI (ply σ k a))), (7, .int (nI k)), (6, .int (nI pa)), (5, .int (mI l)), (4, .int (mI f)), (0, .ref hM), (1, .int (nI a)), (2, .int (nI w))]) dX6_actor_88 rfl (by decide) rfl ?_
              refine r_iload C (i := 8) 1 dX6_actor_89 rfl ?_
              refine r_iconst C dX6_actor_91 ki_m1 ?_
              refine r_icmp_eqT C 106 dX6_actor_92 (by decide) ((c_eqMM (by omega) (by omega)).mpr (by omega)) ?_
              refine r_iload C (i := 4) 5 dX6_actor_106 rfl ?_
              refine r_istore C (lv' := [(4, .int (mI f)), (3, .int (nI (m + 0))), (8, .int (mI (ply σ k a))), (7, .int (nI k)), (6, .int (nI pa)), (5, .int (mI l)), (0, .ref hM), (1, .int (nI a)), (2, .int (nI w))]) dX6_actor_108 (by decide) rfl ?_
              refine r_iload C (i := 8) 2 dX6_actor_110 rfl ?_
              refine r_iconst C dX6_actor_112 ki_m1 ?_
              refine r_icmp_neF C (tgt := 121) dX6_actor_113 (by decide) (fun z => (h79_14 : ¬ (ply σ k a ≠ 0)) ((c_neMM (by omega) (by omega)).mp z)) ?_
              refine r_iload C (i := 5) 5 dX6_actor_116 rfl ?_
              refine r_goto C 123 dX6_actor_118 (by decide) ?_
              refine r_istore C (lv' := [(5, .int (mI l)), (4, .int (mI f)), (3, .int (nI (m + 0))), (8, .int (mI (ply σ k a))), (7, .int (nI k)), (6, .int (nI pa)), (0, .ref hM), (1, .int (nI a)), (2, .int (nI w))]) dX6_actor_123 (by decide) rfl ?_
              refine r_iload C (i := 6) 5 dX6_actor_125 rfl ?_
              refine r_iload C (i := 8) 3 dX6_actor_127 rfl ?_
              refine r_iconst C dX6_actor_129 ki_m1 ?_
              refine r_icmp_neF C (tgt := 137) dX6_actor_130 (by decide) (fun z => (h79_14 : ¬ (ply σ k a ≠ 0)) ((c_neMM (by omega) (by omega)).mp z)) ?_
              refine r_iconst C dX6_actor_133 ki_0 ?_
              refine r_goto C 141 dX6_actor_134 (by decide) ?_
              refine r_ior (v := nI (pa ||| 0)) C dX6_actor_141 (v_or _ _) ?_
              refine r_istore C (lv' := [(6, .int (nI (pa ||| 0))), (5, .int (mI l)), (4, .int (mI f)), (3, .int (nI (m + 0))), (8, .int (mI (ply σ k a))), (7, .int (nI k)), (0, .ref hM), (1, .int (nI a)), (2, .int (nI w))]) dX6_actor_142 (by decide) rfl ?_
              refine r_iinc C (lv' := [(7, .int (nI (k + 1))), (6, .int (nI (pa ||| 0))), (5, .int (mI l)), (4, .int (mI f)), (3, .int (nI (m + 0))), (8, .int (mI (ply σ k a))), (0, .ref hM), (1, .int (nI a)), (2, .int (nI w))]) (v := nI (k + 1)) 5 dX6_actor_144 rfl (v_inc _) (by decide) rfl ?_
              refine r_goto C 55 dX6_actor_147 (by decide) ?_
              refine r_lv (lv' := [(7, .int (nI (k + 1))), (6, .int (nI (pa ||| 0))), (5, .int (mI l)), (4, .int (mI f)), (3, .int (nI (m + 0))), (0, .ref hM), (1, .int (nI a)), (2, .int (nI w))]) C [0, 1, 2, 3, 4, 6, 7, 8] rfl ?_
              exact ih4 (k + 1) (m + 0) f l (pa ||| 0) ta_11 tb_12 tc_13 (by omega) (by omega) (by rw [pcN, hc, if_pos (by omega)]) (by rw [pfN, if_neg (by omega), hf]) (by rw [plN, if_pos (by omega), hl]) (by rw [paN, if_pos (by omega), hpa, Nat.or_zero])
      exact loop55_3 _ 0 0 0 0 0 t1 t2 t3 (Nat.lt_succ_self _) (by omega) rfl rfl rfl rfl
  · refine r_iconst C dX6_actor_12 ki_1 ?_
    refine r_goto C 33 dX6_actor_13 (by decide) ?_
    first | (exfalso; omega) | (exfalso; simp_all; done)
set_option maxRecDepth 100000 in
set_option maxHeartbeats 1000000 in
theorem c_X6_actor__x1 {l : Launch} {E : Ev} {hM rf x1 sz x3 x4 x5 ac x7 x8 x9 x10 x11 sp ou : Nat} {g : Nat → Int32} {σ : Sg} (hR : RepM σ g) (hW : Wf σ) {a w : Int32} (hx : ¬ vI a (sA σ)) : Ct l E yX6_actor cX6_actor 9 (some FieldType.int) 5 123 [.ref hM, .int a, .int w] [(hM, .inr (6, [.int (nI rf), .ref x1, .int (nI sz), .ref x3, .ref x4, .ref x5, .int (nI ac), .ref x7, .ref x8, .ref x9, .ref x10, .ref x11, .int (nI sp), .int (nI ou)])), (x3, .inl (eI E, 255, .inl g))] (fun v9 w9 => v9 = some (.int (nI 0)) ∧ w9 = [(hM, .inr (6, [.int (nI 1), .ref x1, .int (nI sz), .ref x3, .ref x4, .ref x5, .int (nI ac), .ref x7, .ref x8, .ref x9, .ref x10, .ref x11, .int (nI sp), .int (nI ou)])), (x3, .inl (eI E, 255, .inl g))]) := by
  have hwP := hW.P
  have hwA := hW.A
  have hwS := hW.S
  refine ct_of (by decide +kernel) (Nat.le_of_ble_eq_true rfl) (fun ω C RT => ?_)
  show ω [(hM, .inr (6, [.int (nI rf), .ref x1, .int (nI sz), .ref x3, .ref x4, .ref x5, .int (nI ac), .ref x7, .ref x8, .ref x9, .ref x10, .ref x11, .int (nI sp), .int (nI ou)])), (x3, .inl (eI E, 255, .inl g))] [(0, .ref hM), (1, .int a), (2, .int w)] [] 0
  refine r_aload_n C (i := 0) 0 dX6_actor_0 rfl rfl ?_
  refine r_aload_n C (i := 0) 0 dX6_actor_1 rfl rfl ?_
  refine r_get C 0 3 uX6 rfl rfl (by decide) w_5_64 rfl dX6_actor_2 ?_
  refine r_iload_n C (i := 1) 1 dX6_actor_5 rfl rfl ?_
  refine r_readS (rest := [.ref hM]) C (c_X6_isActor__r (r := x3) (g := g) (σ := σ) (x := a) (hR := hR) (hW := hW)) lk_X6_isActor w_5_154 [1] dX6_actor_6 rfl rfl rfl ⟨by decide, by decide⟩ (Nat.le_of_ble_eq_true rfl) (st' := [.int (bP (vI a (sA σ))), .ref hM]) rfl ?_
  refine r_if_ne C (y := 0) (c9 := vI a (sA σ)) 16 dX6_actor_9 (by decide) z_neB (fun h9_1 => ?_) (fun h9_1 => ?_)
  · refine r_iload_n C (i := 2) 2 dX6_actor_16 rfl rfl ?_
    refine r_i2l (v := (w).toInt64) C dX6_actor_17 rfl ?_
    refine r_lconst (v := lN 0) C dX6_actor_18 (by decide +kernel) ?_
    refine r_ldc2 (v := lN 5) C dX6_actor_19 w_6_30 ?_
    refine r_readS (rest := [.ref hM]) C (c_X6_in (v := (w).toInt64) (lw := lN 0) (hg := lN 5)) lk_X6_in w_5_113 [] dX6_actor_22 rfl rfl rfl ⟨by decide, by decide⟩ (Nat.le_of_ble_eq_true rfl) (st' := [.int (bP (lN 0 ≤ (w).toInt64 ∧ (w).toInt64 ≤ lN 5)), .ref hM]) rfl ?_
    refine r_st (st' := [.int (bP (vI w (6))), .ref hM]) (by rw [bP_c (in_r (by omega))]) ?_
    refine r_if_eq C (y := 0) (c9 := ¬ (vI w (6))) 32 dX6_actor_25 (by decide) z_eqB (fun h25_2 => ?_) (fun h25_2 => ?_)
    · refine r_iconst C dX6_actor_32 ki_2 ?_
      first | (exfalso; omega) | (exfalso; simp_all; done)
    · replace h25_2 : vI w (6) := Decidable.not_not.mp h25_2
      refine r_iconst C dX6_actor_28 ki_0 ?_
      refine r_goto C 33 dX6_actor_29 (by decide) ?_
      first | (exfalso; omega) | (exfalso; simp_all; done)
  · refine r_iconst C dX6_actor_12 ki_1 ?_
    refine r_goto C 33 dX6_actor_13 (by decide) ?_
    refine r_callV (rest := []) C (c_X6_refused (hM := hM) (rf := rf) (x1 := x1) (sz := sz) (x3 := x3) (x4 := x4) (x5 := x5) (ac := ac) (x7 := x7) (x8 := x8) (x9 := x9) (x10 := x10) (x11 := x11) (sp := sp) (ou := ou) (w := 1) (hw := (by omega))) lk_X6_refused w_5_116 [0] rfl dX6_actor_33 rfl rfl rfl rfl ⟨by decide, by decide⟩ (Nat.le_of_ble_eq_true rfl) ?_
    rintro _ _ ⟨rfl, rfl⟩
    show ω [(hM, .inr (6, [.int (nI 1), .ref x1, .int (nI sz), .ref x3, .ref x4, .ref x5, .int (nI ac), .ref x7, .ref x8, .ref x9, .ref x10, .ref x11, .int (nI sp), .int (nI ou)])), (x3, .inl (eI E, 255, .inl g))] [(0, .ref hM), (1, .int a), (2, .int w)] [.int (bP (0 < 1))] 36
    refine r_if_eqF C (y := 0) (tgt := 41) dX6_actor_36 (by decide) (fun z => ((by decide) : ¬ (¬ (0 < 1))) (z_eqB.mp z)) ?_
    refine r_iconst C dX6_actor_39 ki_0 ?_
    exact RT.1 _ _ _ _ _ dX6_actor_40 rfl rfl (⟨rfl, rfl⟩) rfl
set_option maxRecDepth 100000 in
set_option maxHeartbeats 1000000 in
theorem c_X6_actor__x2 {l : Launch} {E : Ev} {hM rf x1 sz x3 x4 x5 ac x7 x8 x9 x10 x11 sp ou : Nat} {g : Nat → Int32} {σ : Sg} (hR : RepM σ g) (hW : Wf σ) {a : Nat} {w : Int32} (ha : a < sA σ) (hx : ¬ vI w 6) : Ct l E yX6_actor cX6_actor 9 (some FieldType.int) 5 123 [.ref hM, .int (nI a), .int w] [(hM, .inr (6, [.int (nI rf), .ref x1, .int (nI sz), .ref x3, .ref x4, .ref x5, .int (nI ac), .ref x7, .ref x8, .ref x9, .ref x10, .ref x11, .int (nI sp), .int (nI ou)])), (x3, .inl (eI E, 255, .inl g))] (fun v9 w9 => v9 = some (.int (nI 0)) ∧ w9 = [(hM, .inr (6, [.int (nI 2), .ref x1, .int (nI sz), .ref x3, .ref x4, .ref x5, .int (nI ac), .ref x7, .ref x8, .ref x9, .ref x10, .ref x11, .int (nI sp), .int (nI ou)])), (x3, .inl (eI E, 255, .inl g))]) := by
  have hwP := hW.P
  have hwA := hW.A
  have hwS := hW.S
  refine ct_of (by decide +kernel) (Nat.le_of_ble_eq_true rfl) (fun ω C RT => ?_)
  show ω [(hM, .inr (6, [.int (nI rf), .ref x1, .int (nI sz), .ref x3, .ref x4, .ref x5, .int (nI ac), .ref x7, .ref x8, .ref x9, .ref x10, .ref x11, .int (nI sp), .int (nI ou)])), (x3, .inl (eI E, 255, .inl g))] [(0, .ref hM), (1, .int (nI a)), (2, .int w)] [] 0
  refine r_aload_n C (i := 0) 0 dX6_actor_0 rfl rfl ?_
  refine r_aload_n C (i := 0) 0 dX6_actor_1 rfl rfl ?_
  refine r_get C 0 3 uX6 rfl rfl (by decide) w_5_64 rfl dX6_actor_2 ?_
  refine r_iload_n C (i := 1) 1 dX6_actor_5 rfl rfl ?_
  refine r_readS (rest := [.ref hM]) C (c_X6_isActor (r := x3) (g := g) (σ := σ) (i := a) (hR := hR) (hW := hW) (hi := (by omega))) lk_X6_isActor w_5_154 [1] dX6_actor_6 rfl rfl rfl ⟨by decide, by decide⟩ (Nat.le_of_ble_eq_true rfl) (st' := [.int (bP (a < sA σ)), .ref hM]) rfl ?_
  refine r_if_ne C (y := 0) (c9 := a < sA σ) 16 dX6_actor_9 (by decide) z_neB (fun h9_1 => ?_) (fun h9_1 => ?_)
  · refine r_iload_n C (i := 2) 2 dX6_actor_16 rfl rfl ?_
    refine r_i2l (v := (w).toInt64) C dX6_actor_17 rfl ?_
    refine r_lconst (v := lN 0) C dX6_actor_18 (by decide +kernel) ?_
    refine r_ldc2 (v := lN 5) C dX6_actor_19 w_6_30 ?_
    refine r_readS (rest := [.ref hM]) C (c_X6_in (v := (w).toInt64) (lw := lN 0) (hg := lN 5)) lk_X6_in w_5_113 [] dX6_actor_22 rfl rfl rfl ⟨by decide, by decide⟩ (Nat.le_of_ble_eq_true rfl) (st' := [.int (bP (lN 0 ≤ (w).toInt64 ∧ (w).toInt64 ≤ lN 5)), .ref hM]) rfl ?_
    refine r_st (st' := [.int (bP (vI w (6))), .ref hM]) (by rw [bP_c (in_r (by omega))]) ?_
    refine r_if_eq C (y := 0) (c9 := ¬ (vI w (6))) 32 dX6_actor_25 (by decide) z_eqB (fun h25_2 => ?_) (fun h25_2 => ?_)
    · refine r_iconst C dX6_actor_32 ki_2 ?_
      refine r_callV (rest := []) C (c_X6_refused (hM := hM) (rf := rf) (x1 := x1) (sz := sz) (x3 := x3) (x4 := x4) (x5 := x5) (ac := ac) (x7 := x7) (x8 := x8) (x9 := x9) (x10 := x10) (x11 := x11) (sp := sp) (ou := ou) (w := 2) (hw := (by omega))) lk_X6_refused w_5_116 [0] rfl dX6_actor_33 rfl rfl rfl rfl ⟨by decide, by decide⟩ (Nat.le_of_ble_eq_true rfl) ?_
      rintro _ _ ⟨rfl, rfl⟩
      show ω [(hM, .inr (6, [.int (nI 2), .ref x1, .int (nI sz), .ref x3, .ref x4, .ref x5, .int (nI ac), .ref x7, .ref x8, .ref x9, .ref x10, .ref x11, .int (nI sp), .int (nI ou)])), (x3, .inl (eI E, 255, .inl g))] [(0, .ref hM), (1, .int (nI a)), (2, .int w)] [.int (bP (0 < 2))] 36
      refine r_if_eqF C (y := 0) (tgt := 41) dX6_actor_36 (by decide) (fun z => ((by decide) : ¬ (¬ (0 < 2))) (z_eqB.mp z)) ?_
      refine r_iconst C dX6_actor_39 ki_0 ?_
      exact RT.1 _ _ _ _ _ dX6_actor_40 rfl rfl (⟨rfl, rfl⟩) rfl
    · replace h25_2 : vI w (6) := Decidable.not_not.mp h25_2
      refine r_iconst C dX6_actor_28 ki_0 ?_
      refine r_goto C 33 dX6_actor_29 (by decide) ?_
      first | (exfalso; omega) | (exfalso; simp_all; done)
  · refine r_iconst C dX6_actor_12 ki_1 ?_
    refine r_goto C 33 dX6_actor_13 (by decide) ?_
    first | (exfalso; omega) | (exfalso; simp_all; done)
set_option maxRecDepth 100000 in
set_option maxHeartbeats 1000000 in
theorem c_X6_ranked {l : Launch} {E : Ev} {hM rf x1 sz x3 x4 x5 ac x7 x8 x9 x10 x11 sp ou : Nat} {g : Nat → Int32} {σ : Sg} (hR : RepM σ g) (hW : Wf σ) {p k : Nat} (hp : p < sP σ) (hk : k < 2147483648) : Ct l E yX6_ranked cX6_ranked 3 (some FieldType.int) 2 46 [.ref hM, .int (nI p), .int (nI k)] [(hM, .inr (6, [.int (nI rf), .ref x1, .int (nI sz), .ref x3, .ref x4, .ref x5, .int (nI ac), .ref x7, .ref x8, .ref x9, .ref x10, .ref x11, .int (nI sp), .int (nI ou)])), (x3, .inl (eI E, 255, .inl g))] (fun v9 w9 => v9 = some (.int (aRank σ p k)) ∧ w9 = [(hM, .inr (6, [.int (nI 0), .ref x1, .int (nI sz), .ref x3, .ref x4, .ref x5, .int (nI ac), .ref x7, .ref x8, .ref x9, .ref x10, .ref x11, .int (nI sp), .int (nI ou)])), (x3, .inl (eI E, 255, .inl g))]) := by
  have hwP := hW.P
  have hwA := hW.A
  have hwS := hW.S
  have hwC := hW.C hp
  refine ct_of (by decide +kernel) (Nat.le_of_ble_eq_true rfl) (fun ω C RT => ?_)
  show ω [(hM, .inr (6, [.int (nI rf), .ref x1, .int (nI sz), .ref x3, .ref x4, .ref x5, .int (nI ac), .ref x7, .ref x8, .ref x9, .ref x10, .ref x11, .int (nI sp), .int (nI ou)])), (x3, .inl (eI E, 255, .inl g))] [(0, .ref hM), (1, .int (nI p)), (2, .int (nI k))] [] 0
  refine r_aload_n C (i := 0) 0 dX6_ranked_0 rfl rfl ?_
  refine r_aload_n C (i := 0) 0 dX6_ranked_1 rfl rfl ?_
  refine r_get C 0 3 uX6 rfl rfl (by decide) w_5_64 rfl dX6_ranked_2 ?_
  refine r_iload_n C (i := 1) 1 dX6_ranked_5 rfl rfl ?_
  refine r_readS (rest := [.ref hM]) C (c_X6_isPart (r := x3) (g := g) (σ := σ) (i := p) (hR := hR) (hW := hW) (hi := (by omega))) lk_X6_isPart w_5_151 [1] dX6_ranked_6 rfl rfl rfl ⟨by decide, by decide⟩ (Nat.le_of_ble_eq_true rfl) (st' := [.int (bP (p < sP σ)), .ref hM]) rfl ?_
  refine r_if_ne C (y := 0) (c9 := p < sP σ) 16 dX6_ranked_9 (by decide) z_neB (fun h9_1 => ?_) (fun h9_1 => ?_)
  · refine r_iload_n C (i := 2) 2 dX6_ranked_16 rfl rfl ?_
    refine r_if_lt C (y := 0) (c9 := k < 0) 24 dX6_ranked_17 (by decide) (z_ltN (by omega)) (fun h17_2 => ?_) (fun h17_2 => ?_)
    · refine r_iconst C dX6_ranked_24 ki_2 ?_
      first | (exfalso; omega) | (exfalso; simp_all; done)
    · refine r_iconst C dX6_ranked_20 ki_0 ?_
      refine r_goto C 25 dX6_ranked_21 (by decide) ?_
      refine r_callV (rest := []) C (c_X6_refused (hM := hM) (rf := rf) (x1 := x1) (sz := sz) (x3 := x3) (x4 := x4) (x5 := x5) (ac := ac) (x7 := x7) (x8 := x8) (x9 := x9) (x10 := x10) (x11 := x11) (sp := sp) (ou := ou) (w := 0) (hw := (by omega))) lk_X6_refused w_5_116 [0] rfl dX6_ranked_25 rfl rfl rfl rfl ⟨by decide, by decide⟩ (Nat.le_of_ble_eq_true rfl) ?_
      rintro _ _ ⟨rfl, rfl⟩
      show ω [(hM, .inr (6, [.int (nI 0), .ref x1, .int (nI sz), .ref x3, .ref x4, .ref x5, .int (nI ac), .ref x7, .ref x8, .ref x9, .ref x10, .ref x11, .int (nI sp), .int (nI ou)])), (x3, .inl (eI E, 255, .inl g))] [(0, .ref hM), (1, .int (nI p)), (2, .int (nI k))] [.int (bP (0 < 0))] 28
      refine r_if_eqT C (y := 0) 33 dX6_ranked_28 (by decide) (z_eqB.mpr (by decide)) ?_
      refine r_iload_n C (i := 2) 2 dX6_ranked_33 rfl rfl ?_
      refine r_aload_n C (i := 0) 0 dX6_ranked_34 rfl rfl ?_
      refine r_get C 0 3 uX6 rfl rfl (by decide) w_5_64 rfl dX6_ranked_35 ?_
      refine r_sipush C dX6_ranked_38 ks_145 ?_
      refine r_iconst C dX6_ranked_41 ki_5 ?_
      refine r_iload_n C (i := 1) 1 dX6_ranked_42 rfl rfl ?_
      refine r_imul (v := nI (5 * p)) C dX6_ranked_43 (pk_mul _ _) ?_
      refine r_iadd (v := nI (145 + (5 * p))) C dX6_ranked_44 (nI_add _ _) ?_
      refine r_iald (j := 145 + (5 * p)) (v := nI (sC σ p)) C 1 rfl (by omega) (by decide) (hR.C hp) dX6_ranked_45 ?_
      refine r_icmp_ge C (c9 := sC σ p ≤ k) 68 dX6_ranked_46 (by decide) (c_leNN (by omega) (by omega)) (fun h46_3 => ?_) (fun h46_3 => ?_)
      · refine r_iconst C dX6_ranked_68 ki_m1 ?_
        exact RT.1 _ _ _ _ _ dX6_ranked_69 rfl rfl (⟨sv (by rw [aRank, if_neg (by omega)]), rfl⟩) rfl
      · refine r_aload_n C (i := 0) 0 dX6_ranked_49 rfl rfl ?_
        refine r_get C 0 3 uX6 rfl rfl (by decide) w_5_64 rfl dX6_ranked_50 ?_
        refine r_sipush C dX6_ranked_53 ks_145 ?_
        refine r_iconst C dX6_ranked_56 ki_5 ?_
        refine r_iload_n C (i := 1) 1 dX6_ranked_57 rfl rfl ?_
        refine r_imul (v := nI (5 * p)) C dX6_ranked_58 (pk_mul _ _) ?_
        refine r_iadd (v := nI (145 + (5 * p))) C dX6_ranked_59 (nI_add _ _) ?_
        refine r_iconst C dX6_ranked_60 ki_1 ?_
        refine r_iadd (v := nI ((145 + (5 * p)) + 1)) C dX6_ranked_61 (nI_add _ _) ?_
        refine r_iload_n C (i := 2) 2 dX6_ranked_62 rfl rfl ?_
        refine r_iadd (v := nI (((145 + (5 * p)) + 1) + k)) C dX6_ranked_63 (nI_add _ _) ?_
        refine r_iald (j := ((145 + (5 * p)) + 1) + k) (v := nI (sU σ p k)) C 1 rfl (by omega) (by decide) (hR.U hp (by omega)) dX6_ranked_64 ?_
        refine r_goto C 69 dX6_ranked_65 (by decide) ?_
        exact RT.1 _ _ _ _ _ dX6_ranked_69 rfl rfl (⟨sv (by rw [aRank, if_pos (by omega)]), rfl⟩) rfl
  · refine r_iconst C dX6_ranked_12 ki_1 ?_
    refine r_goto C 25 dX6_ranked_13 (by decide) ?_
    first | (exfalso; omega) | (exfalso; simp_all; done)
set_option maxRecDepth 100000 in
set_option maxHeartbeats 1000000 in
theorem c_X6_ranked__x1 {l : Launch} {E : Ev} {hM rf x1 sz x3 x4 x5 ac x7 x8 x9 x10 x11 sp ou : Nat} {g : Nat → Int32} {σ : Sg} (hR : RepM σ g) (hW : Wf σ) {p k : Int32} (hx : ¬ vI p (sP σ)) : Ct l E yX6_ranked cX6_ranked 3 (some FieldType.int) 2 46 [.ref hM, .int p, .int k] [(hM, .inr (6, [.int (nI rf), .ref x1, .int (nI sz), .ref x3, .ref x4, .ref x5, .int (nI ac), .ref x7, .ref x8, .ref x9, .ref x10, .ref x11, .int (nI sp), .int (nI ou)])), (x3, .inl (eI E, 255, .inl g))] (fun v9 w9 => v9 = some (.int (nI 0)) ∧ w9 = [(hM, .inr (6, [.int (nI 1), .ref x1, .int (nI sz), .ref x3, .ref x4, .ref x5, .int (nI ac), .ref x7, .ref x8, .ref x9, .ref x10, .ref x11, .int (nI sp), .int (nI ou)])), (x3, .inl (eI E, 255, .inl g))]) := by
  have hwP := hW.P
  have hwA := hW.A
  have hwS := hW.S
  refine ct_of (by decide +kernel) (Nat.le_of_ble_eq_true rfl) (fun ω C RT => ?_)
  show ω [(hM, .inr (6, [.int (nI rf), .ref x1, .int (nI sz), .ref x3, .ref x4, .ref x5, .int (nI ac), .ref x7, .ref x8, .ref x9, .ref x10, .ref x11, .int (nI sp), .int (nI ou)])), (x3, .inl (eI E, 255, .inl g))] [(0, .ref hM), (1, .int p), (2, .int k)] [] 0
  refine r_aload_n C (i := 0) 0 dX6_ranked_0 rfl rfl ?_
  refine r_aload_n C (i := 0) 0 dX6_ranked_1 rfl rfl ?_
  refine r_get C 0 3 uX6 rfl rfl (by decide) w_5_64 rfl dX6_ranked_2 ?_
  refine r_iload_n C (i := 1) 1 dX6_ranked_5 rfl rfl ?_
  refine r_readS (rest := [.ref hM]) C (c_X6_isPart__r (r := x3) (g := g) (σ := σ) (x := p) (hR := hR) (hW := hW)) lk_X6_isPart w_5_151 [1] dX6_ranked_6 rfl rfl rfl ⟨by decide, by decide⟩ (Nat.le_of_ble_eq_true rfl) (st' := [.int (bP (vI p (sP σ))), .ref hM]) rfl ?_
  refine r_if_ne C (y := 0) (c9 := vI p (sP σ)) 16 dX6_ranked_9 (by decide) z_neB (fun h9_1 => ?_) (fun h9_1 => ?_)
  · refine r_iload_n C (i := 2) 2 dX6_ranked_16 rfl rfl ?_
    refine r_if_lt C (y := 0) (c9 := k < 0) 24 dX6_ranked_17 (by decide) Iff.rfl (fun h17_2 => ?_) (fun h17_2 => ?_)
    · refine r_iconst C dX6_ranked_24 ki_2 ?_
      first | (exfalso; omega) | (exfalso; simp_all; done)
    · refine r_iconst C dX6_ranked_20 ki_0 ?_
      refine r_goto C 25 dX6_ranked_21 (by decide) ?_
      first | (exfalso; omega) | (exfalso; simp_all; done)
  · refine r_iconst C dX6_ranked_12 ki_1 ?_
    refine r_goto C 25 dX6_ranked_13 (by decide) ?_
    refine r_callV (rest := []) C (c_X6_refused (hM := hM) (rf := rf) (x1 := x1) (sz := sz) (x3 := x3) (x4 := x4) (x5 := x5) (ac := ac) (x7 := x7) (x8 := x8) (x9 := x9) (x10 := x10) (x11 := x11) (sp := sp) (ou := ou) (w := 1) (hw := (by omega))) lk_X6_refused w_5_116 [0] rfl dX6_ranked_25 rfl rfl rfl rfl ⟨by decide, by decide⟩ (Nat.le_of_ble_eq_true rfl) ?_
    rintro _ _ ⟨rfl, rfl⟩
    show ω [(hM, .inr (6, [.int (nI 1), .ref x1, .int (nI sz), .ref x3, .ref x4, .ref x5, .int (nI ac), .ref x7, .ref x8, .ref x9, .ref x10, .ref x11, .int (nI sp), .int (nI ou)])), (x3, .inl (eI E, 255, .inl g))] [(0, .ref hM), (1, .int p), (2, .int k)] [.int (bP (0 < 1))] 28
    refine r_if_eqF C (y := 0) (tgt := 33) dX6_ranked_28 (by decide) (fun z => ((by decide) : ¬ (¬ (0 < 1))) (z_eqB.mp z)) ?_
    refine r_iconst C dX6_ranked_31 ki_0 ?_
    exact RT.1 _ _ _ _ _ dX6_ranked_32 rfl rfl (⟨rfl, rfl⟩) rfl
set_option maxRecDepth 100000 in
set_option maxHeartbeats 1000000 in
theorem c_X6_ranked__x2 {l : Launch} {E : Ev} {hM rf x1 sz x3 x4 x5 ac x7 x8 x9 x10 x11 sp ou : Nat} {g : Nat → Int32} {σ : Sg} (hR : RepM σ g) (hW : Wf σ) {p : Nat} {k : Int32} (hp : p < sP σ) (hx : k < 0) : Ct l E yX6_ranked cX6_ranked 3 (some FieldType.int) 2 46 [.ref hM, .int (nI p), .int k] [(hM, .inr (6, [.int (nI rf), .ref x1, .int (nI sz), .ref x3, .ref x4, .ref x5, .int (nI ac), .ref x7, .ref x8, .ref x9, .ref x10, .ref x11, .int (nI sp), .int (nI ou)])), (x3, .inl (eI E, 255, .inl g))] (fun v9 w9 => v9 = some (.int (nI 0)) ∧ w9 = [(hM, .inr (6, [.int (nI 2), .ref x1, .int (nI sz), .ref x3, .ref x4, .ref x5, .int (nI ac), .ref x7, .ref x8, .ref x9, .ref x10, .ref x11, .int (nI sp), .int (nI ou)])), (x3, .inl (eI E, 255, .inl g))]) := by
  have hwP := hW.P
  have hwA := hW.A
  have hwS := hW.S
  refine ct_of (by decide +kernel) (Nat.le_of_ble_eq_true rfl) (fun ω C RT => ?_)
  show ω [(hM, .inr (6, [.int (nI rf), .ref x1, .int (nI sz), .ref x3, .ref x4, .ref x5, .int (nI ac), .ref x7, .ref x8, .ref x9, .ref x10, .ref x11, .int (nI sp), .int (nI ou)])), (x3, .inl (eI E, 255, .inl g))] [(0, .ref hM), (1, .int (nI p)), (2, .int k)] [] 0
  refine r_aload_n C (i := 0) 0 dX6_ranked_0 rfl rfl ?_
  refine r_aload_n C (i := 0) 0 dX6_ranked_1 rfl rfl ?_
  refine r_get C 0 3 uX6 rfl rfl (by decide) w_5_64 rfl dX6_ranked_2 ?_
  refine r_iload_n C (i := 1) 1 dX6_ranked_5 rfl rfl ?_
  refine r_readS (rest := [.ref hM]) C (c_X6_isPart (r := x3) (g := g) (σ := σ) (i := p) (hR := hR) (hW := hW) (hi := (by omega))) lk_X6_isPart w_5_151 [1] dX6_ranked_6 rfl rfl rfl ⟨by decide, by decide⟩ (Nat.le_of_ble_eq_true rfl) (st' := [.int (bP (p < sP σ)), .ref hM]) rfl ?_
  refine r_if_ne C (y := 0) (c9 := p < sP σ) 16 dX6_ranked_9 (by decide) z_neB (fun h9_1 => ?_) (fun h9_1 => ?_)
  · refine r_iload_n C (i := 2) 2 dX6_ranked_16 rfl rfl ?_
    refine r_if_lt C (y := 0) (c9 := k < 0) 24 dX6_ranked_17 (by decide) Iff.rfl (fun h17_2 => ?_) (fun h17_2 => ?_)
    · refine r_iconst C dX6_ranked_24 ki_2 ?_
      refine r_callV (rest := []) C (c_X6_refused (hM := hM) (rf := rf) (x1 := x1) (sz := sz) (x3 := x3) (x4 := x4) (x5 := x5) (ac := ac) (x7 := x7) (x8 := x8) (x9 := x9) (x10 := x10) (x11 := x11) (sp := sp) (ou := ou) (w := 2) (hw := (by omega))) lk_X6_refused w_5_116 [0] rfl dX6_ranked_25 rfl rfl rfl rfl ⟨by decide, by decide⟩ (Nat.le_of_ble_eq_true rfl) ?_
      rintro _ _ ⟨rfl, rfl⟩
      show ω [(hM, .inr (6, [.int (nI 2), .ref x1, .int (nI sz), .ref x3, .ref x4, .ref x5, .int (nI ac), .ref x7, .ref x8, .ref x9, .ref x10, .ref x11, .int (nI sp), .int (nI ou)])), (x3, .inl (eI E, 255, .inl g))] [(0, .ref hM), (1, .int (nI p)), (2, .int k)] [.int (bP (0 < 2))] 28
      refine r_if_eqF C (y := 0) (tgt := 33) dX6_ranked_28 (by decide) (fun z => ((by decide) : ¬ (¬ (0 < 2))) (z_eqB.mp z)) ?_
      refine r_iconst C dX6_ranked_31 ki_0 ?_
      exact RT.1 _ _ _ _ _ dX6_ranked_32 rfl rfl (⟨rfl, rfl⟩) rfl
    · refine r_iconst C dX6_ranked_20 ki_0 ?_
      refine r_goto C 25 dX6_ranked_21 (by decide) ?_
      first | (exfalso; omega) | (exfalso; simp_all; done)
  · refine r_iconst C dX6_ranked_12 ki_1 ?_
    refine r_goto C 25 dX6_ranked_13 (by decide) ?_
    first | (exfalso; omega) | (exfalso; simp_all; done)
set_option maxRecDepth 100000 in
set_option maxHeartbeats 1000000 in
theorem c_X6_found {l : Launch} {E : Ev} {hM rf x1 sz x3 x4 x5 ac x7 x8 x9 x10 x11 sp ou : Nat} {t1 t2 t3 : Nat → Int32} {g : Nat → Int32} {σ : Sg} (hR : RepM σ g) (hW : Wf σ) {k w : Nat} (hk : k < sS σ) (hw : w < 5) : Ct l E yX6_found cX6_found 3 (some FieldType.int) 5 120 [.ref hM, .int (nI k), .int (nI w)] [(hM, .inr (6, [.int (nI rf), .ref x1, .int (nI sz), .ref x3, .ref x4, .ref x5, .int (nI ac), .ref x7, .ref x8, .ref x9, .ref x10, .ref x11, .int (nI sp), .int (nI ou)])), (x9, .inl (eI E, 6, .inl t1)), (x10, .inl (eI E, 6, .inl t2)), (x11, .inl (eI E, 6, .inl t3)), (x3, .inl (eI E, 255, .inl g))] (fun v9 w9 => ∃ ta tb tc : Nat → Int32, v9 = some (.int (aFound σ k w)) ∧ w9 = [(hM, .inr (6, [.int (nI 0), .ref x1, .int (nI sz), .ref x3, .ref x4, .ref x5, .int (nI ac), .ref x7, .ref x8, .ref x9, .ref x10, .ref x11, .int (nI sp), .int (nI ou)])), (x9, .inl (eI E, 6, .inl ta)), (x10, .inl (eI E, 6, .inl tb)), (x11, .inl (eI E, 6, .inl tc)), (x3, .inl (eI E, 255, .inl g))]) := by
  have hwP := hW.P
  have hwA := hW.A
  have hwS := hW.S
  refine ct_of (by decide +kernel) (Nat.le_of_ble_eq_true rfl) (fun ω C RT => ?_)
  show ω [(hM, .inr (6, [.int (nI rf), .ref x1, .int (nI sz), .ref x3, .ref x4, .ref x5, .int (nI ac), .ref x7, .ref x8, .ref x9, .ref x10, .ref x11, .int (nI sp), .int (nI ou)])), (x9, .inl (eI E, 6, .inl t1)), (x10, .inl (eI E, 6, .inl t2)), (x11, .inl (eI E, 6, .inl t3)), (x3, .inl (eI E, 255, .inl g))] [(0, .ref hM), (1, .int (nI k)), (2, .int (nI w))] [] 0
  refine r_aload_n C (i := 0) 0 dX6_found_0 rfl rfl ?_
  refine r_aload_n C (i := 0) 0 dX6_found_1 rfl rfl ?_
  refine r_get C 0 3 uX6 rfl rfl (by decide) w_5_64 rfl dX6_found_2 ?_
  refine r_iload_n C (i := 1) 1 dX6_found_5 rfl rfl ?_
  refine r_readS (rest := [.ref hM]) C (c_X6_isSlip (r := x3) (g := g) (σ := σ) (i := k) (hR := hR) (hW := hW) (hi := (by omega))) lk_X6_isSlip w_6_43 [4] dX6_found_6 rfl rfl rfl ⟨by decide, by decide⟩ (Nat.le_of_ble_eq_true rfl) (st' := [.int (bP (k < sS σ)), .ref hM]) rfl ?_
  refine r_if_ne C (y := 0) (c9 := k < sS σ) 16 dX6_found_9 (by decide) z_neB (fun h9_1 => ?_) (fun h9_1 => ?_)
  · refine r_iload_n C (i := 2) 2 dX6_found_16 rfl rfl ?_
    refine r_i2l (v := lN w) C dX6_found_17 (v_i2l (by omega)) ?_
    refine r_lconst (v := lN 0) C dX6_found_18 (by decide +kernel) ?_
    refine r_ldc2 (v := lN 4) C dX6_found_19 w_6_25 ?_
    refine r_readS (rest := [.ref hM]) C (c_X6_in (v := lN w) (lw := lN 0) (hg := lN 4)) lk_X6_in w_5_113 [] dX6_found_22 rfl rfl rfl ⟨by decide, by decide⟩ (Nat.le_of_ble_eq_true rfl) (st' := [.int (bP (lN 0 ≤ lN w ∧ lN w ≤ lN 4)), .ref hM]) rfl ?_
    refine r_st (st' := [.int (bP (w ≤ 4)), .ref hM]) (by rw [bP_c (in_N (by omega) (by omega))]) ?_
    refine r_if_eq C (y := 0) (c9 := ¬ (w ≤ 4)) 32 dX6_found_25 (by decide) z_eqB (fun h25_2 => ?_) (fun h25_2 => ?_)
    · refine r_iconst C dX6_found_32 ki_2 ?_
      first | (exfalso; omega) | (exfalso; simp_all; done)
    · replace h25_2 : w ≤ 4 := Decidable.not_not.mp h25_2
      refine r_iconst C dX6_found_28 ki_0 ?_
      refine r_goto C 33 dX6_found_29 (by decide) ?_
      refine r_callV (rest := []) C (c_X6_refused (hM := hM) (rf := rf) (x1 := x1) (sz := sz) (x3 := x3) (x4 := x4) (x5 := x5) (ac := ac) (x7 := x7) (x8 := x8) (x9 := x9) (x10 := x10) (x11 := x11) (sp := sp) (ou := ou) (w := 0) (hw := (by omega))) lk_X6_refused w_5_116 [0] rfl dX6_found_33 rfl rfl rfl rfl ⟨by decide, by decide⟩ (Nat.le_of_ble_eq_true rfl) ?_
      rintro _ _ ⟨rfl, rfl⟩
      show ω [(hM, .inr (6, [.int (nI 0), .ref x1, .int (nI sz), .ref x3, .ref x4, .ref x5, .int (nI ac), .ref x7, .ref x8, .ref x9, .ref x10, .ref x11, .int (nI sp), .int (nI ou)])), (x9, .inl (eI E, 6, .inl t1)), (x10, .inl (eI E, 6, .inl t2)), (x11, .inl (eI E, 6, .inl t3)), (x3, .inl (eI E, 255, .inl g))] [(0, .ref hM), (1, .int (nI k)), (2, .int (nI w))] [.int (bP (0 < 0))] 36
      refine r_if_eqT C (y := 0) 41 dX6_found_36 (by decide) (z_eqB.mpr (by decide)) ?_
      refine r_iload_n C (i := 2) 2 dX6_found_41 rfl rfl ?_
      refine r_iconst C dX6_found_42 ki_4 ?_
      refine r_icmp_ge C (c9 := 4 ≤ w) 58 dX6_found_43 (by decide) (c_leNN (by omega) (by omega)) (fun h43_3 => ?_) (fun h43_3 => ?_)
      · refine r_aload_n C (i := 0) 0 dX6_found_58 rfl rfl ?_
        refine r_iload_n C (i := 1) 1 dX6_found_59 rfl rfl ?_
        refine r_callV (rest := []) C (c_X6_isUsed (hM := hM) (rf := 0) (x1 := x1) (sz := sz) (x3 := x3) (x4 := x4) (x5 := x5) (ac := ac) (x7 := x7) (x8 := x8) (x9 := x9) (x10 := x10) (x11 := x11) (sp := sp) (ou := ou) (t1 := t1) (t2 := t2) (t3 := t3) (g := g) (σ := σ) (k := k) (hR := hR) (hW := hW) (hk := (by omega))) lk_X6_isUsed w_5_204 [0, 1, 2, 3, 4] rfl dX6_found_60 rfl rfl rfl rfl ⟨by decide, by decide⟩ (Nat.le_of_ble_eq_true rfl) ?_
        rintro _ _ ⟨ta_4, tb_5, tc_6, rfl, rfl⟩
        show ω [(hM, .inr (6, [.int (nI 0), .ref x1, .int (nI sz), .ref x3, .ref x4, .ref x5, .int (nI ac), .ref x7, .ref x8, .ref x9, .ref x10, .ref x11, .int (nI sp), .int (nI ou)])), (x9, .inl (eI E, 6, .inl ta_4)), (x10, .inl (eI E, 6, .inl tb_5)), (x11, .inl (eI E, 6, .inl tc_6)), (x3, .inl (eI E, 255, .inl g))] [(0, .ref hM), (1, .int (nI k)), (2, .int (nI w))] [.int (bP (usd σ k))] 63
        refine r_if_eq C (y := 0) (c9 := ¬ (usd σ k)) 70 dX6_found_63 (by decide) z_eqB (fun h63_7 => ?_) (fun h63_7 => ?_)
        · refine r_iconst C dX6_found_70 ki_0 ?_
          exact RT.1 _ _ _ _ _ dX6_found_71 rfl rfl (⟨_, _, _, sv (by rw [aFound, if_neg (by omega), if_neg h63_7]), rfl⟩) rfl
        · replace h63_7 : usd σ k := Decidable.not_not.mp h63_7
          refine r_iconst C dX6_found_66 ki_1 ?_
          refine r_goto C 71 dX6_found_67 (by decide) ?_
          exact RT.1 _ _ _ _ _ dX6_found_71 rfl rfl (⟨_, _, _, sv (by rw [aFound, if_neg (by omega), if_pos h63_7]), rfl⟩) rfl
      · refine r_aload_n C (i := 0) 0 dX6_found_46 rfl rfl ?_
        refine r_get C 0 3 uX6 rfl rfl (by decide) w_5_64 rfl dX6_found_47 ?_
        refine r_iload_n C (i := 1) 1 dX6_found_50 rfl rfl ?_
        refine r_iload_n C (i := 2) 2 dX6_found_51 rfl rfl ?_
        refine r_readS (rest := []) C (c_X6_slipOf (r := x3) (g := g) (σ := σ) (k := k) (j := w) (hR := hR) (hW := hW) (hk := (by omega)) (hj := (by omega))) lk_X6_slipOf w_5_208 [4] dX6_found_52 rfl rfl rfl ⟨by decide, by decide⟩ (Nat.le_of_ble_eq_true rfl) (st' := [.int (nI (sL σ k w))]) rfl ?_
        refine r_goto C 71 dX6_found_55 (by decide) ?_
        exact RT.1 _ _ _ _ _ dX6_found_71 rfl rfl (⟨_, _, _, sv (by rw [aFound, if_pos (by omega)]), rfl⟩) rfl
  · refine r_iconst C dX6_found_12 ki_1 ?_
    refine r_goto C 33 dX6_found_13 (by decide) ?_
    first | (exfalso; omega) | (exfalso; simp_all; done)
set_option maxRecDepth 100000 in
set_option maxHeartbeats 1000000 in
theorem c_X6_found__x1 {l : Launch} {E : Ev} {hM rf x1 sz x3 x4 x5 ac x7 x8 x9 x10 x11 sp ou : Nat} {g : Nat → Int32} {σ : Sg} (hR : RepM σ g) (hW : Wf σ) {k w : Int32} (hx : ¬ vI k (sS σ)) : Ct l E yX6_found cX6_found 3 (some FieldType.int) 5 120 [.ref hM, .int k, .int w] [(hM, .inr (6, [.int (nI rf), .ref x1, .int (nI sz), .ref x3, .ref x4, .ref x5, .int (nI ac), .ref x7, .ref x8, .ref x9, .ref x10, .ref x11, .int (nI sp), .int (nI ou)])), (x3, .inl (eI E, 255, .inl g))] (fun v9 w9 => v9 = some (.int (nI 0)) ∧ w9 = [(hM, .inr (6, [.int (nI 1), .ref x1, .int (nI sz), .ref x3, .ref x4, .ref x5, .int (nI ac), .ref x7, .ref x8, .ref x9, .ref x10, .ref x11, .int (nI sp), .int (nI ou)])), (x3, .inl (eI E, 255, .inl g))]) := by
  have hwP := hW.P
  have hwA := hW.A
  have hwS := hW.S
  refine ct_of (by decide +kernel) (Nat.le_of_ble_eq_true rfl) (fun ω C RT => ?_)
  show ω [(hM, .inr (6, [.int (nI rf), .ref x1, .int (nI sz), .ref x3, .ref x4, .ref x5, .int (nI ac), .ref x7, .ref x8, .ref x9, .ref x10, .ref x11, .int (nI sp), .int (nI ou)])), (x3, .inl (eI E, 255, .inl g))] [(0, .ref hM), (1, .int k), (2, .int w)] [] 0
  refine r_aload_n C (i := 0) 0 dX6_found_0 rfl rfl ?_
  refine r_aload_n C (i := 0) 0 dX6_found_1 rfl rfl ?_
  refine r_get C 0 3 uX6 rfl rfl (by decide) w_5_64 rfl dX6_found_2 ?_
  refine r_iload_n C (i := 1) 1 dX6_found_5 rfl rfl ?_
  refine r_readS (rest := [.ref hM]) C (c_X6_isSlip__r (r := x3) (g := g) (σ := σ) (x := k) (hR := hR) (hW := hW)) lk_X6_isSlip w_6_43 [1] dX6_found_6 rfl rfl rfl ⟨by decide, by decide⟩ (Nat.le_of_ble_eq_true rfl) (st' := [.int (bP (vI k (sS σ))), .ref hM]) rfl ?_
  refine r_if_ne C (y := 0) (c9 := vI k (sS σ)) 16 dX6_found_9 (by decide) z_neB (fun h9_1 => ?_) (fun h9_1 => ?_)
  · refine r_iload_n C (i := 2) 2 dX6_found_16 rfl rfl ?_
    refine r_i2l (v := (w).toInt64) C dX6_found_17 rfl ?_
    refine r_lconst (v := lN 0) C dX6_found_18 (by decide +kernel) ?_
    refine r_ldc2 (v := lN 4) C dX6_found_19 w_6_25 ?_
    refine r_readS (rest := [.ref hM]) C (c_X6_in (v := (w).toInt64) (lw := lN 0) (hg := lN 4)) lk_X6_in w_5_113 [] dX6_found_22 rfl rfl rfl ⟨by decide, by decide⟩ (Nat.le_of_ble_eq_true rfl) (st' := [.int (bP (lN 0 ≤ (w).toInt64 ∧ (w).toInt64 ≤ lN 4)), .ref hM]) rfl ?_
    refine r_st (st' := [.int (bP (vI w (5))), .ref hM]) (by rw [bP_c (in_r (by omega))]) ?_
    refine r_if_eq C (y := 0) (c9 := ¬ (vI w (5))) 32 dX6_found_25 (by decide) z_eqB (fun h25_2 => ?_) (fun h25_2 => ?_)
    · refine r_iconst C dX6_found_32 ki_2 ?_
      first | (exfalso; omega) | (exfalso; simp_all; done)
    · replace h25_2 : vI w (5) := Decidable.not_not.mp h25_2
      refine r_iconst C dX6_found_28 ki_0 ?_
      refine r_goto C 33 dX6_found_29 (by decide) ?_
      first | (exfalso; omega) | (exfalso; simp_all; done)
  · refine r_iconst C dX6_found_12 ki_1 ?_
    refine r_goto C 33 dX6_found_13 (by decide) ?_
    refine r_callV (rest := []) C (c_X6_refused (hM := hM) (rf := rf) (x1 := x1) (sz := sz) (x3 := x3) (x4 := x4) (x5 := x5) (ac := ac) (x7 := x7) (x8 := x8) (x9 := x9) (x10 := x10) (x11 := x11) (sp := sp) (ou := ou) (w := 1) (hw := (by omega))) lk_X6_refused w_5_116 [0] rfl dX6_found_33 rfl rfl rfl rfl ⟨by decide, by decide⟩ (Nat.le_of_ble_eq_true rfl) ?_
    rintro _ _ ⟨rfl, rfl⟩
    show ω [(hM, .inr (6, [.int (nI 1), .ref x1, .int (nI sz), .ref x3, .ref x4, .ref x5, .int (nI ac), .ref x7, .ref x8, .ref x9, .ref x10, .ref x11, .int (nI sp), .int (nI ou)])), (x3, .inl (eI E, 255, .inl g))] [(0, .ref hM), (1, .int k), (2, .int w)] [.int (bP (0 < 1))] 36
    refine r_if_eqF C (y := 0) (tgt := 41) dX6_found_36 (by decide) (fun z => ((by decide) : ¬ (¬ (0 < 1))) (z_eqB.mp z)) ?_
    refine r_iconst C dX6_found_39 ki_0 ?_
    exact RT.1 _ _ _ _ _ dX6_found_40 rfl rfl (⟨rfl, rfl⟩) rfl
set_option maxRecDepth 100000 in
set_option maxHeartbeats 1000000 in
theorem c_X6_found__x2 {l : Launch} {E : Ev} {hM rf x1 sz x3 x4 x5 ac x7 x8 x9 x10 x11 sp ou : Nat} {g : Nat → Int32} {σ : Sg} (hR : RepM σ g) (hW : Wf σ) {k : Nat} {w : Int32} (hk : k < sS σ) (hx : ¬ vI w 5) : Ct l E yX6_found cX6_found 3 (some FieldType.int) 5 120 [.ref hM, .int (nI k), .int w] [(hM, .inr (6, [.int (nI rf), .ref x1, .int (nI sz), .ref x3, .ref x4, .ref x5, .int (nI ac), .ref x7, .ref x8, .ref x9, .ref x10, .ref x11, .int (nI sp), .int (nI ou)])), (x3, .inl (eI E, 255, .inl g))] (fun v9 w9 => v9 = some (.int (nI 0)) ∧ w9 = [(hM, .inr (6, [.int (nI 2), .ref x1, .int (nI sz), .ref x3, .ref x4, .ref x5, .int (nI ac), .ref x7, .ref x8, .ref x9, .ref x10, .ref x11, .int (nI sp), .int (nI ou)])), (x3, .inl (eI E, 255, .inl g))]) := by
  have hwP := hW.P
  have hwA := hW.A
  have hwS := hW.S
  refine ct_of (by decide +kernel) (Nat.le_of_ble_eq_true rfl) (fun ω C RT => ?_)
  show ω [(hM, .inr (6, [.int (nI rf), .ref x1, .int (nI sz), .ref x3, .ref x4, .ref x5, .int (nI ac), .ref x7, .ref x8, .ref x9, .ref x10, .ref x11, .int (nI sp), .int (nI ou)])), (x3, .inl (eI E, 255, .inl g))] [(0, .ref hM), (1, .int (nI k)), (2, .int w)] [] 0
  refine r_aload_n C (i := 0) 0 dX6_found_0 rfl rfl ?_
  refine r_aload_n C (i := 0) 0 dX6_found_1 rfl rfl ?_
  refine r_get C 0 3 uX6 rfl rfl (by decide) w_5_64 rfl dX6_found_2 ?_
  refine r_iload_n C (i := 1) 1 dX6_found_5 rfl rfl ?_
  refine r_readS (rest := [.ref hM]) C (c_X6_isSlip (r := x3) (g := g) (σ := σ) (i := k) (hR := hR) (hW := hW) (hi := (by omega))) lk_X6_isSlip w_6_43 [1] dX6_found_6 rfl rfl rfl ⟨by decide, by decide⟩ (Nat.le_of_ble_eq_true rfl) (st' := [.int (bP (k < sS σ)), .ref hM]) rfl ?_
  refine r_if_ne C (y := 0) (c9 := k < sS σ) 16 dX6_found_9 (by decide) z_neB (fun h9_1 => ?_) (fun h9_1 => ?_)
  · refine r_iload_n C (i := 2) 2 dX6_found_16 rfl rfl ?_
    refine r_i2l (v := (w).toInt64) C dX6_found_17 rfl ?_
    refine r_lconst (v := lN 0) C dX6_found_18 (by decide +kernel) ?_
    refine r_ldc2 (v := lN 4) C dX6_found_19 w_6_25 ?_
    refine r_readS (rest := [.ref hM]) C (c_X6_in (v := (w).toInt64) (lw := lN 0) (hg := lN 4)) lk_X6_in w_5_113 [] dX6_found_22 rfl rfl rfl ⟨by decide, by decide⟩ (Nat.le_of_ble_eq_true rfl) (st' := [.int (bP (lN 0 ≤ (w).toInt64 ∧ (w).toInt64 ≤ lN 4)), .ref hM]) rfl ?_
    refine r_st (st' := [.int (bP (vI w (5))), .ref hM]) (by rw [bP_c (in_r (by omega))]) ?_
    refine r_if_eq C (y := 0) (c9 := ¬ (vI w (5))) 32 dX6_found_25 (by decide) z_eqB (fun h25_2 => ?_) (fun h25_2 => ?_)
    · refine r_iconst C dX6_found_32 ki_2 ?_
      refine r_callV (rest := []) C (c_X6_refused (hM := hM) (rf := rf) (x1 := x1) (sz := sz) (x3 := x3) (x4 := x4) (x5 := x5) (ac := ac) (x7 := x7) (x8 := x8) (x9 := x9) (x10 := x10) (x11 := x11) (sp := sp) (ou := ou) (w := 2) (hw := (by omega))) lk_X6_refused w_5_116 [0] rfl dX6_found_33 rfl rfl rfl rfl ⟨by decide, by decide⟩ (Nat.le_of_ble_eq_true rfl) ?_
      rintro _ _ ⟨rfl, rfl⟩
      show ω [(hM, .inr (6, [.int (nI 2), .ref x1, .int (nI sz), .ref x3, .ref x4, .ref x5, .int (nI ac), .ref x7, .ref x8, .ref x9, .ref x10, .ref x11, .int (nI sp), .int (nI ou)])), (x3, .inl (eI E, 255, .inl g))] [(0, .ref hM), (1, .int (nI k)), (2, .int w)] [.int (bP (0 < 2))] 36
      refine r_if_eqF C (y := 0) (tgt := 41) dX6_found_36 (by decide) (fun z => ((by decide) : ¬ (¬ (0 < 2))) (z_eqB.mp z)) ?_
      refine r_iconst C dX6_found_39 ki_0 ?_
      exact RT.1 _ _ _ _ _ dX6_found_40 rfl rfl (⟨rfl, rfl⟩) rfl
    · replace h25_2 : vI w (5) := Decidable.not_not.mp h25_2
      refine r_iconst C dX6_found_28 ki_0 ?_
      refine r_goto C 33 dX6_found_29 (by decide) ?_
      first | (exfalso; omega) | (exfalso; simp_all; done)
  · refine r_iconst C dX6_found_12 ki_1 ?_
    refine r_goto C 33 dX6_found_13 (by decide) ?_
    first | (exfalso; omega) | (exfalso; simp_all; done)
set_option maxRecDepth 100000 in
set_option maxHeartbeats 1000000 in
theorem c_X6_setting {l : Launch} {E : Ev} {hM rf x1 sz x3 x4 x5 ac x7 x8 x9 x10 x11 sp ou : Nat} {g : Nat → Int32} {σ : Sg} (hR : RepM σ g) (hW : Wf σ) {w : Nat} (hw : w < 2) : Ct l E yX6_setting cX6_setting 2 (some FieldType.int) 1 25 [.ref hM, .int (nI w)] [(hM, .inr (6, [.int (nI rf), .ref x1, .int (nI sz), .ref x3, .ref x4, .ref x5, .int (nI ac), .ref x7, .ref x8, .ref x9, .ref x10, .ref x11, .int (nI sp), .int (nI ou)])), (x3, .inl (eI E, 255, .inl g))] (fun v9 w9 => v9 = some (.int (nI (sO σ w))) ∧ w9 = [(hM, .inr (6, [.int (nI 0), .ref x1, .int (nI sz), .ref x3, .ref x4, .ref x5, .int (nI ac), .ref x7, .ref x8, .ref x9, .ref x10, .ref x11, .int (nI sp), .int (nI ou)])), (x3, .inl (eI E, 255, .inl g))]) := by
  have hwP := hW.P
  have hwA := hW.A
  have hwS := hW.S
  refine ct_of (by decide +kernel) (Nat.le_of_ble_eq_true rfl) (fun ω C RT => ?_)
  show ω [(hM, .inr (6, [.int (nI rf), .ref x1, .int (nI sz), .ref x3, .ref x4, .ref x5, .int (nI ac), .ref x7, .ref x8, .ref x9, .ref x10, .ref x11, .int (nI sp), .int (nI ou)])), (x3, .inl (eI E, 255, .inl g))] [(0, .ref hM), (1, .int (nI w))] [] 0
  refine r_aload_n C (i := 0) 0 dX6_setting_0 rfl rfl ?_
  refine r_iload_n C (i := 1) 1 dX6_setting_1 rfl rfl ?_
  refine r_i2l (v := lN w) C dX6_setting_2 (v_i2l (by omega)) ?_
  refine r_lconst (v := lN 0) C dX6_setting_3 (by decide +kernel) ?_
  refine r_lconst (v := lN 1) C dX6_setting_4 (by decide +kernel) ?_
  refine r_readS (rest := [.ref hM]) C (c_X6_in (v := lN w) (lw := lN 0) (hg := lN 1)) lk_X6_in w_5_113 [] dX6_setting_5 rfl rfl rfl ⟨by decide, by decide⟩ (Nat.le_of_ble_eq_true rfl) (st' := [.int (bP (lN 0 ≤ lN w ∧ lN w ≤ lN 1)), .ref hM]) rfl ?_
  refine r_st (st' := [.int (bP (w ≤ 1)), .ref hM]) (by rw [bP_c (in_N (by omega) (by omega))]) ?_
  refine r_if_eq C (y := 0) (c9 := ¬ (w ≤ 1)) 15 dX6_setting_8 (by decide) z_eqB (fun h8_1 => ?_) (fun h8_1 => ?_)
  · refine r_iconst C dX6_setting_15 ki_1 ?_
    first | (exfalso; omega) | (exfalso; simp_all; done)
  · replace h8_1 : w ≤ 1 := Decidable.not_not.mp h8_1
    refine r_iconst C dX6_setting_11 ki_0 ?_
    refine r_goto C 16 dX6_setting_12 (by decide) ?_
    refine r_callV (rest := []) C (c_X6_refused (hM := hM) (rf := rf) (x1 := x1) (sz := sz) (x3 := x3) (x4 := x4) (x5 := x5) (ac := ac) (x7 := x7) (x8 := x8) (x9 := x9) (x10 := x10) (x11 := x11) (sp := sp) (ou := ou) (w := 0) (hw := (by omega))) lk_X6_refused w_5_116 [0] rfl dX6_setting_16 rfl rfl rfl rfl ⟨by decide, by decide⟩ (Nat.le_of_ble_eq_true rfl) ?_
    rintro _ _ ⟨rfl, rfl⟩
    show ω [(hM, .inr (6, [.int (nI 0), .ref x1, .int (nI sz), .ref x3, .ref x4, .ref x5, .int (nI ac), .ref x7, .ref x8, .ref x9, .ref x10, .ref x11, .int (nI sp), .int (nI ou)])), (x3, .inl (eI E, 255, .inl g))] [(0, .ref hM), (1, .int (nI w))] [.int (bP (0 < 0))] 19
    refine r_if_eqT C (y := 0) 24 dX6_setting_19 (by decide) (z_eqB.mpr (by decide)) ?_
    refine r_aload_n C (i := 0) 0 dX6_setting_24 rfl rfl ?_
    refine r_get C 0 3 uX6 rfl rfl (by decide) w_5_64 rfl dX6_setting_25 ?_
    refine r_iconst C dX6_setting_28 ki_3 ?_
    refine r_iload_n C (i := 1) 1 dX6_setting_29 rfl rfl ?_
    refine r_iadd (v := nI (3 + w)) C dX6_setting_30 (nI_add _ _) ?_
    refine r_iald (j := 3 + w) (v := nI (sO σ w)) C 1 rfl (by omega) (by decide) (hR.O hw) dX6_setting_31 ?_
    exact RT.1 _ _ _ _ _ dX6_setting_32 rfl rfl (⟨rfl, rfl⟩) rfl
set_option maxRecDepth 100000 in
set_option maxHeartbeats 1000000 in
theorem c_X6_setting__x1 {l : Launch} {E : Ev} {hM rf x1 sz x3 x4 x5 ac x7 x8 x9 x10 x11 sp ou : Nat} {g : Nat → Int32} {σ : Sg} (hR : RepM σ g) (hW : Wf σ) {w : Int32} (hx : ¬ vI w 2) : Ct l E yX6_setting cX6_setting 2 (some FieldType.int) 1 25 [.ref hM, .int w] [(hM, .inr (6, [.int (nI rf), .ref x1, .int (nI sz), .ref x3, .ref x4, .ref x5, .int (nI ac), .ref x7, .ref x8, .ref x9, .ref x10, .ref x11, .int (nI sp), .int (nI ou)])), (x3, .inl (eI E, 255, .inl g))] (fun v9 w9 => v9 = some (.int (nI 0)) ∧ w9 = [(hM, .inr (6, [.int (nI 1), .ref x1, .int (nI sz), .ref x3, .ref x4, .ref x5, .int (nI ac), .ref x7, .ref x8, .ref x9, .ref x10, .ref x11, .int (nI sp), .int (nI ou)])), (x3, .inl (eI E, 255, .inl g))]) := by
  have hwP := hW.P
  have hwA := hW.A
  have hwS := hW.S
  refine ct_of (by decide +kernel) (Nat.le_of_ble_eq_true rfl) (fun ω C RT => ?_)
  show ω [(hM, .inr (6, [.int (nI rf), .ref x1, .int (nI sz), .ref x3, .ref x4, .ref x5, .int (nI ac), .ref x7, .ref x8, .ref x9, .ref x10, .ref x11, .int (nI sp), .int (nI ou)])), (x3, .inl (eI E, 255, .inl g))] [(0, .ref hM), (1, .int w)] [] 0
  refine r_aload_n C (i := 0) 0 dX6_setting_0 rfl rfl ?_
  refine r_iload_n C (i := 1) 1 dX6_setting_1 rfl rfl ?_
  refine r_i2l (v := (w).toInt64) C dX6_setting_2 rfl ?_
  refine r_lconst (v := lN 0) C dX6_setting_3 (by decide +kernel) ?_
  refine r_lconst (v := lN 1) C dX6_setting_4 (by decide +kernel) ?_
  refine r_readS (rest := [.ref hM]) C (c_X6_in (v := (w).toInt64) (lw := lN 0) (hg := lN 1)) lk_X6_in w_5_113 [] dX6_setting_5 rfl rfl rfl ⟨by decide, by decide⟩ (Nat.le_of_ble_eq_true rfl) (st' := [.int (bP (lN 0 ≤ (w).toInt64 ∧ (w).toInt64 ≤ lN 1)), .ref hM]) rfl ?_
  refine r_st (st' := [.int (bP (vI w (2))), .ref hM]) (by rw [bP_c (in_r (by omega))]) ?_
  refine r_if_eq C (y := 0) (c9 := ¬ (vI w (2))) 15 dX6_setting_8 (by decide) z_eqB (fun h8_1 => ?_) (fun h8_1 => ?_)
  · refine r_iconst C dX6_setting_15 ki_1 ?_
    refine r_callV (rest := []) C (c_X6_refused (hM := hM) (rf := rf) (x1 := x1) (sz := sz) (x3 := x3) (x4 := x4) (x5 := x5) (ac := ac) (x7 := x7) (x8 := x8) (x9 := x9) (x10 := x10) (x11 := x11) (sp := sp) (ou := ou) (w := 1) (hw := (by omega))) lk_X6_refused w_5_116 [0] rfl dX6_setting_16 rfl rfl rfl rfl ⟨by decide, by decide⟩ (Nat.le_of_ble_eq_true rfl) ?_
    rintro _ _ ⟨rfl, rfl⟩
    show ω [(hM, .inr (6, [.int (nI 1), .ref x1, .int (nI sz), .ref x3, .ref x4, .ref x5, .int (nI ac), .ref x7, .ref x8, .ref x9, .ref x10, .ref x11, .int (nI sp), .int (nI ou)])), (x3, .inl (eI E, 255, .inl g))] [(0, .ref hM), (1, .int w)] [.int (bP (0 < 1))] 19
    refine r_if_eqF C (y := 0) (tgt := 24) dX6_setting_19 (by decide) (fun z => ((by decide) : ¬ (¬ (0 < 1))) (z_eqB.mp z)) ?_
    refine r_iconst C dX6_setting_22 ki_0 ?_
    exact RT.1 _ _ _ _ _ dX6_setting_23 rfl rfl (⟨rfl, rfl⟩) rfl
  · replace h8_1 : vI w (2) := Decidable.not_not.mp h8_1
    refine r_iconst C dX6_setting_11 ki_0 ?_
    refine r_goto C 16 dX6_setting_12 (by decide) ?_
    first | (exfalso; omega) | (exfalso; simp_all; done)
