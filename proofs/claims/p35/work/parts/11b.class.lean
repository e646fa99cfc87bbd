theorem pT_le {σ : Sg} (hW : Wf σ) {n p : Nat} (hp : p < sP σ) (hn : n < 20) : pT σ n p ≤ sA σ := by
  unfold pT; split <;> first | exact Nat.zero_le _ | exact T_le hW hp hn
theorem pT_eq {σ : Sg} {n p a : Nat} : pT σ n p = a + 1 ↔ dk σ n = 0 ∧ T σ n p = a + 1 := by
  unfold pT
  have := dk_le σ n
  split
  · rename_i h; exact ⟨fun z => ⟨h, z⟩, fun z => z.2⟩
  · rename_i h; exact ⟨fun z => absurd z (by omega), fun z => absurd z.1 h⟩
theorem ply_ex {σ : Sg} {n a : Nat} : ply σ n a ≠ 0 ↔ dk σ n = 0 ∧ ∃ q, q < sP σ ∧ T σ n q = a + 1 := by
  constructor
  · intro h
    by_cases hd : dk σ n = 0
    · refine ⟨hd, Classical.byContradiction fun z => h (ply_no (fun _ p hp e => z ⟨p, hp, e⟩))⟩
    · exact absurd (ply_no (fun e => absurd e hd)) h
  · rintro ⟨hd, q, hq, e⟩ z
    have h1 : fa_first (fun p => decide (T σ n p = a + 1)) (sP σ) < sP σ := by
      rcases Nat.lt_or_ge (fa_first (fun p => decide (T σ n p = a + 1)) (sP σ)) (sP σ) with y | y
      · exact y
      · exact absurd e (of_decide_eq_false (fa_first_no (fun p => decide (T σ n p = a + 1)) (sP σ) q (by omega)))
    unfold ply at z
    rw [if_pos ⟨hd, h1⟩] at z; cases z
theorem plr_bit {σ : Sg} {n a : Nat} : plr σ n / 2 ^ a % 2 = 1 ↔ ply σ n a ≠ 0 := by
  rw [ply_ex, tbd]
  unfold plr
  have := dk_le σ n
  split
  · rename_i h; simp; intro e; omega
  · rename_i h; rw [us_tb]; exact ⟨fun z => ⟨by omega, z⟩, fun z => z.2⟩
theorem plr_lt {σ : Sg} (hW : Wf σ) {n : Nat} (hn : n < 20) : plr σ n < 1024 := by
  unfold plr; split; decide; exact us_lt hW hn (Nat.le_refl _)
/-- the nights of an actor as bits -/
def pbF (σ : Sg) (a n : Nat) : Nat := if ply σ n a = 0 then 0 else 1
def pbP (σ : Sg) (p a n : Nat) : Nat := if isPl σ p a n then 1 else 0
theorem pbF_le (σ : Sg) (a n : Nat) : pbF σ a n ≤ 1 := by unfold pbF; split <;> omega
theorem pbP_le (σ : Sg) (p a n : Nat) : pbP σ p a n ≤ 1 := by unfold pbP; split <;> omega
def ffN (b : Nat → Nat) : Nat → Nat
  | 0 => 0
  | n + 1 => if b n = 1 ∧ ffN b n = 0 then n + 1 else ffN b n
def llN (b : Nat → Nat) : Nat → Nat
  | 0 => 0
  | n + 1 => if b n = 0 then llN b n else n + 1
theorem ffN_p (σ : Sg) (a : Nat) : ∀ n, pfN σ a n = ffN (pbF σ a) n
  | 0 => rfl
  | n + 1 => by
    rw [pfN, ffN, ffN_p σ a n]
    unfold pbF
    by_cases e : ply σ n a = 0
    · rw [if_neg (fun z => z.1 e), if_neg (fun z => by have := z.1; rw [if_pos e] at this; cases this)]
    · by_cases e2 : ffN (pbF σ a) n = 0
      · rw [if_pos ⟨e, e2⟩, if_pos ⟨if_neg e, e2⟩]
      · rw [if_neg (fun z => e2 z.2), if_neg (fun z => e2 z.2)]
theorem llN_p (σ : Sg) (a : Nat) : ∀ n, plN σ a n = llN (pbF σ a) n
  | 0 => rfl
  | n + 1 => by
    rw [plN, llN, llN_p σ a n]
    unfold pbF
    by_cases e : ply σ n a = 0
    · rw [if_pos e, if_pos e]; simp [e]
    · rw [if_neg e, if_neg (by rw [if_neg e]; decide)]
theorem ffN_0 {b : Nat → Nat} : ∀ {n : Nat}, (∀ j, j < n → b j ≠ 1) → ffN b n = 0
  | 0, _ => rfl
  | n + 1, h => by rw [ffN, if_neg (fun z => h n (Nat.lt_succ_self n) z.1)]; exact ffN_0 (fun j hj => h j (by omega))
theorem ffN_at {b : Nat → Nat} {k : Nat} (h1 : b k = 1) (h0 : ∀ j, j < k → b j ≠ 1) : ∀ {n : Nat}, k < n → ffN b n = k + 1
  | 0, h => absurd h (Nat.not_lt_zero _)
  | n + 1, h => by
    by_cases e : n = k
    · subst e; rw [ffN, if_pos ⟨h1, ffN_0 h0⟩]
    · have h2 := ffN_at h1 h0 (show k < n by omega)
      rw [ffN, if_neg (fun z => by rw [h2] at z; exact absurd z.2 (by omega)), h2]
theorem llN_0 {b : Nat → Nat} : ∀ {n : Nat}, (∀ j, j < n → b j = 0) → llN b n = 0
  | 0, _ => rfl
  | n + 1, h => by rw [llN, if_pos (h n (Nat.lt_succ_self n))]; exact llN_0 (fun j hj => h j (by omega))
theorem llN_at {b : Nat → Nat} {k : Nat} (h1 : b k ≠ 0) : ∀ {n : Nat}, k < n → (∀ j, k < j → j < n → b j = 0) → llN b n = k + 1
  | 0, h, _ => absurd h (Nat.not_lt_zero _)
  | n + 1, h, h0 => by
    by_cases e : n = k
    · subst e; rw [llN, if_neg h1]
    · rw [llN, if_pos (h0 n (by omega) (Nat.lt_succ_self n))]; exact llN_at h1 (by omega) (fun j hj hj2 => h0 j hj (by omega))
def pq (σ : Sg) (n a : Nat) : Nat → Nat
  | 0 => 0
  | p + 1 => if pT σ n p = a + 1 then pq σ n a p ||| 2 ^ p else pq σ n a p
theorem pq_0 {σ : Sg} {n a : Nat} : ∀ {p : Nat}, (∀ j, j < p → pT σ n j ≠ a + 1) → pq σ n a p = 0
  | 0, _ => rfl
  | p + 1, h => by rw [pq, if_neg (h p (Nat.lt_succ_self p))]; exact pq_0 (fun j hj => h j (by omega))
theorem pq_1 {σ : Sg} {n a k : Nat} (hk : pT σ n k = a + 1) : ∀ {p : Nat}, k < p → pq σ n a p = 2 ^ k
  | 0, h => absurd h (Nat.not_lt_zero _)
  | p + 1, h => by
    have hk2 := pT_eq.mp hk
    by_cases e : p = k
    · subst e
      rw [pq, if_pos hk, pq_0 (fun j hj z => ?_), Nat.zero_or]
      have z2 := pT_eq.mp z
      exact T_inj hj (by omega) (z2.2.trans hk2.2.symm)
    · rw [pq, if_neg, pq_1 hk (by omega)]
      intro z
      have z2 := pT_eq.mp z
      exact T_inj (show k < p by omega) (by omega) (hk2.2.trans z2.2.symm)
theorem pa_s {σ : Sg} {a n : Nat} : paN σ a n ||| pq σ n a (sP σ) = paN σ a (n + 1) := by
  rw [paN]
  by_cases e : ply σ n a = 0
  · rw [if_pos e, pq_0, Nat.or_zero]
    intro j hj z
    have z2 := pT_eq.mp z
    exact (ply_ex.mpr ⟨z2.1, j, hj, z2.2⟩) e
  · rw [if_neg e]
    obtain ⟨hd, q, hq, e2⟩ := ply_ex.mp e
    rw [pq_1 (pT_eq.mpr ⟨hd, e2⟩) hq]
    have : ply σ n a = q + 1 := ply_yes hd hq e2 (fun j hj z => T_inj hj (by omega) (z.trans e2.symm))
    rw [this, Nat.add_sub_cancel]
theorem pq_lt {σ : Sg} (hW : Wf σ) (n a : Nat) : ∀ {p : Nat}, p ≤ sP σ → pq σ n a p < 2 ^ 6
  | 0, _ => by simp [pq]
  | p + 1, h => by
    have h1 := pq_lt hW n a (show p ≤ sP σ by omega)
    have h2 := hW.P
    rw [pq]
    split
    · exact Nat.or_lt_two_pow h1 (Nat.pow_lt_pow_right (by decide) (by omega))
    · exact h1
set_option maxRecDepth 100000 in
set_option maxHeartbeats 1000000 in
theorem c_X5_nightsOf {l : Launch} {E : Ev} {hB b1 b2 b3 b4 b5 b6 b7 b8 b9 b10 : Nat} {c1 : Nat} {f : Nat → Int32} {σ : Sg} (hR : RepC σ f) (hW : Wf σ) {e1 e2 e3 par fre pri sls drk pla tks : Nat} {t1 t2 t3 : Nat → Int32} {a : Nat} (ha : a < sA σ) : Ct l E yX5_nightsOf cX5_nightsOf 4 (some FieldType.int) 4 95 [.ref hB, .int (nI a)] [(hB, .inr (5, [.ref b1, .ref b2, .ref b3, .ref b4, .ref b5, .ref b6, .ref b7, .ref b8, .ref b9, .ref b10])), (b1, .inr (4, [.ref c1])), (c1, .inl (eI E, 265, .inl f)), (b7, .inr (0, [.ref e1, .ref e2, .ref e3, .int (nI par), .int (nI fre), .int (nI pri), .int (nI sls), .int (nI drk), .int (nI pla), .int (nI tks)])), (e1, .inl (eI E, 6, .inl t1)), (e2, .inl (eI E, 6, .inl t2)), (e3, .inl (eI E, 6, .inl t3))] (fun v9 w9 => ∃ (par2 fre2 pri2 sls2 drk2 pla2 tks2 : Nat) (ta tb tc : Nat → Int32), v9 = some (.int (nI (bm (pbF σ a) 20))) ∧ w9 = [(hB, .inr (5, [.ref b1, .ref b2, .ref b3, .ref b4, .ref b5, .ref b6, .ref b7, .ref b8, .ref b9, .ref b10])), (b1, .inr (4, [.ref c1])), (c1, .inl (eI E, 265, .inl f)), (b7, .inr (0, [.ref e1, .ref e2, .ref e3, .int (nI par2), .int (nI fre2), .int (nI pri2), .int (nI sls2), .int (nI drk2), .int (nI pla2), .int (nI tks2)])), (e1, .inl (eI E, 6, .inl ta)), (e2, .inl (eI E, 6, .inl tb)), (e3, .inl (eI E, 6, .inl tc))]) := by
  have hwP := hW.P
  have hwA := hW.A
  have hwS := hW.S
  refine ct_of (by decide +kernel) (Nat.le_of_ble_eq_true rfl) (fun ω C RT => ?_)
  show ω [(hB, .inr (5, [.ref b1, .ref b2, .ref b3, .ref b4, .ref b5, .ref b6, .ref b7, .ref b8, .ref b9, .ref b10])), (b1, .inr (4, [.ref c1])), (c1, .inl (eI E, 265, .inl f)), (b7, .inr (0, [.ref e1, .ref e2, .ref e3, .int (nI par), .int (nI fre), .int (nI pri), .int (nI sls), .int (nI drk), .int (nI pla), .int (nI tks)])), (e1, .inl (eI E, 6, .inl t1)), (e2, .inl (eI E, 6, .inl t2)), (e3, .inl (eI E, 6, .inl t3))] [(0, .ref hB), (1, .int (nI a))] [] 0
  refine r_iconst C dX5_nightsOf_0 ki_0 ?_
  refine r_istore_n C (lv' := [(2, .int (nI 0)), (0, .ref hB), (1, .int (nI a))]) dX5_nightsOf_1 rfl (by decide) rfl ?_
  refine r_iconst C dX5_nightsOf_2 ki_0 ?_
  refine r_istore_n C (lv' := [(3, .int (nI 0)), (2, .int (nI 0)), (0, .ref hB), (1, .int (nI a))]) dX5_nightsOf_3 rfl (by decide) rfl ?_
  have loop4_1 : ∀ (dd9 : Nat) (n : Nat) (x : Nat) (u1 : Nat) (u2 : Nat) (u3 : Nat) (u4 : Nat) (u5 : Nat) (u6 : Nat) (u7 : Nat) (w1 : Nat → Int32) (w2 : Nat → Int32) (w3 : Nat → Int32), 20 - n < dd9 → (n ≤ 20) → (x = bm (pbF σ a) n) → ω [(hB, .inr (5, [.ref b1, .ref b2, .ref b3, .ref b4, .ref b5, .ref b6, .ref b7, .ref b8, .ref b9, .ref b10])), (b1, .inr (4, [.ref c1])), (c1, .inl (eI E, 265, .inl f)), (b7, .inr (0, [.ref e1, .ref e2, .ref e3, .int (nI u1), .int (nI u2), .int (nI u3), .int (nI u4), .int (nI u5), .int (nI u6), .int (nI u7)])), (e1, .inl (eI E, 6, .inl w1)), (e2, .inl (eI E, 6, .inl w2)), (e3, .inl (eI E, 6, .inl w3))] [(3, .int (nI n)), (2, .int (nI x)), (0, .ref hB), (1, .int (nI a))] [] 4 := by
    intro dd9
    induction dd9 with
    | zero => intro n x u1 u2 u3 u4 u5 u6 u7 w1 w2 w3 hd; exact absurd hd (Nat.not_lt_zero _)
    | succ dd9 ih2 =>
      intro n x u1 u2 u3 u4 u5 u6 u7 w1 w2 w3 hd hn hx
      have hxl : x < 1048576 := by rw [hx]; exact Nat.lt_of_lt_of_le (bm_lt (pbF_le σ a) n) (Nat.pow_le_pow_right (by decide) hn : 2 ^ n ≤ 2 ^ 20)
      refine r_iload_n C (i := 3) 0 dX5_nightsOf_4 rfl rfl ?_
      refine r_bipush C dX5_nightsOf_5 kb_20 ?_
      refine r_icmp_ge C (c9 := 20 ≤ n) 48 dX5_nightsOf_7 (by decide) (c_leNN (by omega) (by omega)) (fun h7_3 => ?_) (fun h7_3 => ?_)
      · refine r_iload_n C (i := 2) 1 dX5_nightsOf_48 rfl rfl ?_
        exact RT.1 _ _ _ _ _ dX5_nightsOf_49 rfl rfl (⟨_, _, _, _, _, _, _, _, _, _, sv (congrArg nI (by rw [hx, (by omega : n = 20)])), rfl⟩) rfl
      · refine r_aload_n C (i := 0) 2 dX5_nightsOf_10 rfl rfl ?_
        refine r_get C 0 6 uX5 rfl rfl (by decide) w_1_134 rfl dX5_nightsOf_11 ?_
        refine r_aload_n C (i := 0) 2 dX5_nightsOf_14 rfl rfl ?_
        refine r_get C 0 0 uX5 rfl rfl (by decide) w_1_128 rfl dX5_nightsOf_15 ?_
        refine r_iload_n C (i := 3) 0 dX5_nightsOf_18 rfl rfl ?_
        refine r_callV (rest := []) C (c_X0_workOut (hE := b7) (e1 := e1) (e2 := e2) (e3 := e3) (par := u1) (fre := u2) (pri := u3) (sls := u4) (drk := u5) (pla := u6) (tks := u7) (t1 := w1) (t2 := w2) (t3 := w3) (h0 := b1) (q1 := c1) (f := f) (σ := σ) (n := n) (hR := hR) (hW := hW) (hn := (by omega))) lk_X0_workOut w_3_145 [3, 4, 5, 6, 1, 2] rfl dX5_nightsOf_19 rfl rfl rfl rfl ⟨by decide, by decide⟩ (Nat.le_of_ble_eq_true rfl) ?_
        rintro _ _ ⟨par_4, fre_5, pri_6, sls_7, drk_8, pla_9, tks_10, ta_11, tb_12, tc_13, rfl, rfl, hEv_14⟩
        show ω [(hB, .inr (5, [.ref b1, .ref b2, .ref b3, .ref b4, .ref b5, .ref b6, .ref b7, .ref b8, .ref b9, .ref b10])), (b1, .inr (4, [.ref c1])), (c1, .inl (eI E, 265, .inl f)), (b7, .inr (0, [.ref e1, .ref e2, .ref e3, .int (nI par_4), .int (nI fre_5), .int (nI pri_6), .int (nI sls_7), .int (nI drk_8), .int (nI pla_9), .int (nI tks_10)])), (e1, .inl (eI E, 6, .inl ta_11)), (e2, .inl (eI E, 6, .inl tb_12)), (e3, .inl (eI E, 6, .inl tc_13))] [(3, .int (nI n)), (2, .int (nI x)), (0, .ref hB), (1, .int (nI a))] [] 22
        refine r_aload_n C (i := 0) 2 dX5_nightsOf_22 rfl rfl ?_
        refine r_get C 0 6 uX5 rfl rfl (by decide) w_1_134 rfl dX5_nightsOf_23 ?_
        have hpl := plr_lt hW (show n < 20 by omega)
        refine r_readV (rest := []) C (c_X0_players (hE := b7) (e1 := e1) (e2 := e2) (e3 := e3) (par := par_4) (fre := fre_5) (pri := pri_6) (sls := sls_7) (drk := drk_8) (pla := pla_9) (tks := tks_10) (t1 := ta_11) (t2 := tb_12) (t3 := tc_13) (σ := σ) (n := n) (hEv := hEv_14) (hW := hW)) lk_X0_players w_3_218 [3, 4, 5, 6] rfl dX5_nightsOf_26 rfl rfl rfl rfl ⟨by decide, by decide⟩ (Nat.le_of_ble_eq_true rfl) (st' := [.int (nI (plr σ n))]) rfl ?_
        refine r_iload_n C (i := 1) 3 dX5_nightsOf_29 rfl rfl ?_
        refine r_readS (rest := []) C (c_X5_holds (s := plr σ n) (e := a) (hs := (by omega)) (he := (by omega))) lk_X5_holds w_3_239 [] dX5_nightsOf_30 rfl rfl rfl ⟨by decide, by decide⟩ (Nat.le_of_ble_eq_true rfl) (st' := [.int (bP ((plr σ n) / 2 ^ a % 2 = 1))]) rfl ?_
        refine r_if_eq C (y := 0) (c9 := ¬ ((plr σ n) / 2 ^ a % 2 = 1)) 42 dX5_nightsOf_33 (by decide) z_eqB (fun h33_15 => ?_) (fun h33_15 => ?_)
        · refine r_iinc C (lv' := [(3, .int (nI (n + 1))), (2, .int (nI x)), (0, .ref hB), (1, .int (nI a))]) (v := nI (n + 1)) 0 dX5_nightsOf_42 rfl (v_inc _) (by decide) rfl ?_
          refine r_goto C 4 dX5_nightsOf_45 (by decide) ?_
          exact ih2 (n + 1) x par_4 fre_5 pri_6 sls_7 drk_8 pla_9 tks_10 ta_11 tb_12 tc_13 (by omega) (by omega) (by rw [hx]; exact bm_no (by unfold pbF; exact if_pos (Decidable.byContradiction fun z => h33_15 (plr_bit.mpr z))))
        · replace h33_15 : (plr σ n) / 2 ^ a % 2 = 1 := Decidable.not_not.mp h33_15
          refine r_iload_n C (i := 2) 1 dX5_nightsOf_36 rfl rfl ?_
          refine r_iconst C dX5_nightsOf_37 ki_1 ?_
          refine r_iload_n C (i := 3) 0 dX5_nightsOf_38 rfl rfl ?_
          refine r_ishl (v := nI (2 ^ n)) C dX5_nightsOf_39 (v_shl (by omega)) ?_
          refine r_ior (v := nI (x ||| (2 ^ n))) C dX5_nightsOf_40 (v_or _ _) ?_
          refine r_istore_n C (lv' := [(2, .int (nI (x ||| (2 ^ n)))), (3, .int (nI n)), (0, .ref hB), (1, .int (nI a))]) dX5_nightsOf_41 rfl (by decide) rfl ?_
          refine r_iinc C (lv' := [(3, .int (nI (n + 1))), (2, .int (nI (x ||| (2 ^ n)))), (0, .ref hB), (1, .int (nI a))]) (v := nI (n + 1)) 1 dX5_nightsOf_42 rfl (v_inc _) (by decide) rfl ?_
          refine r_goto C 4 dX5_nightsOf_45 (by decide) ?_
          exact ih2 (n + 1) (x ||| (2 ^ n)) par_4 fre_5 pri_6 sls_7 drk_8 pla_9 tks_10 ta_11 tb_12 tc_13 (by omega) (by omega) (by rw [hx]; exact bm_or (pbF_le σ a) (by unfold pbF; rw [if_neg (plr_bit.mp h33_15)]))
  exact loop4_1 _ 0 0 par fre pri sls drk pla tks t1 t2 t3 (Nat.lt_succ_self _) (by omega) rfl
set_option maxRecDepth 100000 in
set_option maxHeartbeats 1000000 in
theorem c_X5_nightsOfPart {l : Launch} {E : Ev} {hB b1 b2 b3 b4 b5 b6 b7 b8 b9 b10 : Nat} {c1 : Nat} {f : Nat → Int32} {σ : Sg} (hR : RepC σ f) (hW : Wf σ) {e1 e2 e3 par fre pri sls drk pla tks : Nat} {t1 t2 t3 : Nat → Int32} {p a : Nat} (hp : p < sP σ) (ha : a < sA σ) : Ct l E yX5_nightsOfPart cX5_nightsOfPart 5 (some FieldType.int) 4 95 [.ref hB, .int (nI p), .int (nI a)] [(hB, .inr (5, [.ref b1, .ref b2, .ref b3, .ref b4, .ref b5, .ref b6, .ref b7, .ref b8, .ref b9, .ref b10])), (b1, .inr (4, [.ref c1])), (c1, .inl (eI E, 265, .inl f)), (b7, .inr (0, [.ref e1, .ref e2, .ref e3, .int (nI par), .int (nI fre), .int (nI pri), .int (nI sls), .int (nI drk), .int (nI pla), .int (nI tks)])), (e1, .inl (eI E, 6, .inl t1)), (e2, .inl (eI E, 6, .inl t2)), (e3, .inl (eI E, 6, .inl t3))] (fun v9 w9 => ∃ (par2 fre2 pri2 sls2 drk2 pla2 tks2 : Nat) (ta tb tc : Nat → Int32), v9 = some (.int (nI (bm (pbP σ p a) 20))) ∧ w9 = [(hB, .inr (5, [.ref b1, .ref b2, .ref b3, .ref b4, .ref b5, .ref b6, .ref b7, .ref b8, .ref b9, .ref b10])), (b1, .inr (4, [.ref c1])), (c1, .inl (eI E, 265, .inl f)), (b7, .inr (0, [.ref e1, .ref e2, .ref e3, .int (nI par2), .int (nI fre2), .int (nI pri2), .int (nI sls2), .int (nI drk2), .int (nI pla2), .int (nI tks2)])), (e1, .inl (eI E, 6, .inl ta)), (e2, .inl (eI E, 6, .inl tb)), (e3, .inl (eI E, 6, .inl tc))]) := by
  have hwP := hW.P
  have hwA := hW.A
  have hwS := hW.S
  refine ct_of (by decide +kernel) (Nat.le_of_ble_eq_true rfl) (fun ω C RT => ?_)
  show ω [(hB, .inr (5, [.ref b1, .ref b2, .ref b3, .ref b4, .ref b5, .ref b6, .ref b7, .ref b8, .ref b9, .ref b10])), (b1, .inr (4, [.ref c1])), (c1, .inl (eI E, 265, .inl f)), (b7, .inr (0, [.ref e1, .ref e2, .ref e3, .int (nI par), .int (nI fre), .int (nI pri), .int (nI sls), .int (nI drk), .int (nI pla), .int (nI tks)])), (e1, .inl (eI E, 6, .inl t1)), (e2, .inl (eI E, 6, .inl t2)), (e3, .inl (eI E, 6, .inl t3))] [(0, .ref hB), (1, .int (nI p)), (2, .int (nI a))] [] 0
  refine r_iconst C dX5_nightsOfPart_0 ki_0 ?_
  refine r_istore_n C (lv' := [(3, .int (nI 0)), (0, .ref hB), (1, .int (nI p)), (2, .int (nI a))]) dX5_nightsOfPart_1 rfl (by decide) rfl ?_
  refine r_iconst C dX5_nightsOfPart_2 ki_0 ?_
  refine r_istore C (lv' := [(4, .int (nI 0)), (3, .int (nI 0)), (0, .ref hB), (1, .int (nI p)), (2, .int (nI a))]) dX5_nightsOfPart_3 (by decide) rfl ?_
  have loop5_1 : ∀ (dd9 : Nat) (n : Nat) (x : Nat) (u1 : Nat) (u2 : Nat) (u3 : Nat) (u4 : Nat) (u5 : Nat) (u6 : Nat) (u7 : Nat) (w1 : Nat → Int32) (w2 : Nat → Int32) (w3 : Nat → Int32), 20 - n < dd9 → (n ≤ 20) → (x = bm (pbP σ p a) n) → ω [(hB, .inr (5, [.ref b1, .ref b2, .ref b3, .ref b4, .ref b5, .ref b6, .ref b7, .ref b8, .ref b9, .ref b10])), (b1, .inr (4, [.ref c1])), (c1, .inl (eI E, 265, .inl f)), (b7, .inr (0, [.ref e1, .ref e2, .ref e3, .int (nI u1), .int (nI u2), .int (nI u3), .int (nI u4), .int (nI u5), .int (nI u6), .int (nI u7)])), (e1, .inl (eI E, 6, .inl w1)), (e2, .inl (eI E, 6, .inl w2)), (e3, .inl (eI E, 6, .inl w3))] [(4, .int (nI n)), (3, .int (nI x)), (0, .ref hB), (1, .int (nI p)), (2, .int (nI a))] [] 5 := by
    intro dd9
    induction dd9 with
    | zero => intro n x u1 u2 u3 u4 u5 u6 u7 w1 w2 w3 hd; exact absurd hd (Nat.not_lt_zero _)
    | succ dd9 ih2 =>
      intro n x u1 u2 u3 u4 u5 u6 u7 w1 w2 w3 hd hn hx
      have hxl : x < 1048576 := by rw [hx]; exact Nat.lt_of_lt_of_le (bm_lt (pbP_le σ p a) n) (Nat.pow_le_pow_right (by decide) hn : 2 ^ n ≤ 2 ^ 20)
      refine r_iload C (i := 4) 0 dX5_nightsOfPart_5 rfl ?_
      refine r_bipush C dX5_nightsOfPart_7 kb_20 ?_
      refine r_icmp_ge C (c9 := 20 ≤ n) 50 dX5_nightsOfPart_9 (by decide) (c_leNN (by omega) (by omega)) (fun h9_3 => ?_) (fun h9_3 => ?_)
      · refine r_iload_n C (i := 3) 1 dX5_nightsOfPart_50 rfl rfl ?_
        exact RT.1 _ _ _ _ _ dX5_nightsOfPart_51 rfl rfl (⟨_, _, _, _, _, _, _, _, _, _, sv (congrArg nI (by rw [hx, (by omega : n = 20)])), rfl⟩) rfl
      · refine r_aload_n C (i := 0) 2 dX5_nightsOfPart_12 rfl rfl ?_
        refine r_get C 0 6 uX5 rfl rfl (by decide) w_1_134 rfl dX5_nightsOfPart_13 ?_
        refine r_aload_n C (i := 0) 2 dX5_nightsOfPart_16 rfl rfl ?_
        refine r_get C 0 0 uX5 rfl rfl (by decide) w_1_128 rfl dX5_nightsOfPart_17 ?_
        refine r_iload C (i := 4) 0 dX5_nightsOfPart_20 rfl ?_
        refine r_callV (rest := []) C (c_X0_workOut (hE := b7) (e1 := e1) (e2 := e2) (e3 := e3) (par := u1) (fre := u2) (pri := u3) (sls := u4) (drk := u5) (pla := u6) (tks := u7) (t1 := w1) (t2 := w2) (t3 := w3) (h0 := b1) (q1 := c1) (f := f) (σ := σ) (n := n) (hR := hR) (hW := hW) (hn := (by omega))) lk_X0_workOut w_3_145 [3, 4, 5, 6, 1, 2] rfl dX5_nightsOfPart_22 rfl rfl rfl rfl ⟨by decide, by decide⟩ (Nat.le_of_ble_eq_true rfl) ?_
        rintro _ _ ⟨par_4, fre_5, pri_6, sls_7, drk_8, pla_9, tks_10, ta_11, tb_12, tc_13, rfl, rfl, hEv_14⟩
        show ω [(hB, .inr (5, [.ref b1, .ref b2, .ref b3, .ref b4, .ref b5, .ref b6, .ref b7, .ref b8, .ref b9, .ref b10])), (b1, .inr (4, [.ref c1])), (c1, .inl (eI E, 265, .inl f)), (b7, .inr (0, [.ref e1, .ref e2, .ref e3, .int (nI par_4), .int (nI fre_5), .int (nI pri_6), .int (nI sls_7), .int (nI drk_8), .int (nI pla_9), .int (nI tks_10)])), (e1, .inl (eI E, 6, .inl ta_11)), (e2, .inl (eI E, 6, .inl tb_12)), (e3, .inl (eI E, 6, .inl tc_13))] [(4, .int (nI n)), (3, .int (nI x)), (0, .ref hB), (1, .int (nI p)), (2, .int (nI a))] [] 25
        refine r_aload_n C (i := 0) 2 dX5_nightsOfPart_25 rfl rfl ?_
        refine r_get C 0 6 uX5 rfl rfl (by decide) w_1_134 rfl dX5_nightsOfPart_26 ?_
        have hpl := pT_le hW hp (show n < 20 by omega)
        refine r_iload_n C (i := 1) 3 dX5_nightsOfPart_29 rfl rfl ?_
        refine r_readV (rest := []) C (c_X0_player (hE := b7) (e1 := e1) (e2 := e2) (e3 := e3) (par := par_4) (fre := fre_5) (pri := pri_6) (sls := sls_7) (drk := drk_8) (pla := pla_9) (tks := tks_10) (t1 := ta_11) (t2 := tb_12) (t3 := tc_13) (σ := σ) (n := n) (p := p) (hEv := hEv_14) (hW := hW) (hp := (by omega))) lk_X0_player w_3_189 [3, 4, 5, 6] rfl dX5_nightsOfPart_30 rfl rfl rfl rfl ⟨by decide, by decide⟩ (Nat.le_of_ble_eq_true rfl) (st' := [.int (mI (pT σ n p))]) rfl ?_
        refine r_iload_n C (i := 2) 4 dX5_nightsOfPart_33 rfl rfl ?_
        refine r_icmp_ne C (c9 := pT σ n p ≠ a + 1) 44 dX5_nightsOfPart_34 (by decide) (c_neMN (by omega) (by omega)) (fun h34_15 => ?_) (fun h34_15 => ?_)
        · refine r_iinc C (lv' := [(4, .int (nI (n + 1))), (3, .int (nI x)), (0, .ref hB), (1, .int (nI p)), (2, .int (nI a))]) (v := nI (n + 1)) 0 dX5_nightsOfPart_44 rfl (v_inc _) (by decide) rfl ?_
          refine r_goto C 5 dX5_nightsOfPart_47 (by decide) ?_
          exact ih2 (n + 1) x par_4 fre_5 pri_6 sls_7 drk_8 pla_9 tks_10 ta_11 tb_12 tc_13 (by omega) (by omega) (by rw [hx]; exact bm_no (if_neg (fun z => by have := pT_eq.mpr z; omega)))
        · refine r_iload_n C (i := 3) 1 dX5_nightsOfPart_37 rfl rfl ?_
          refine r_iconst C dX5_nightsOfPart_38 ki_1 ?_
          refine r_iload C (i := 4) 0 dX5_nightsOfPart_39 rfl ?_
          refine r_ishl (v := nI (2 ^ n)) C dX5_nightsOfPart_41 (v_shl (by omega)) ?_
          refine r_ior (v := nI (x ||| (2 ^ n))) C dX5_nightsOfPart_42 (v_or _ _) ?_
          refine r_istore_n C (lv' := [(3, .int (nI (x ||| (2 ^ n)))), (4, .int (nI n)), (0, .ref hB), (1, .int (nI p)), (2, .int (nI a))]) dX5_nightsOfPart_43 rfl (by decide) rfl ?_
          refine r_iinc C (lv' := [(4, .int (nI (n + 1))), (3, .int (nI (x ||| (2 ^ n)))), (0, .ref hB), (1, .int (nI p)), (2, .int (nI a))]) (v := nI (n + 1)) 1 dX5_nightsOfPart_44 rfl (v_inc _) (by decide) rfl ?_
          refine r_goto C 5 dX5_nightsOfPart_47 (by decide) ?_
          exact ih2 (n + 1) (x ||| (2 ^ n)) par_4 fre_5 pri_6 sls_7 drk_8 pla_9 tks_10 ta_11 tb_12 tc_13 (by omega) (by omega) (by rw [hx]; exact bm_or (pbP_le σ p a) (if_pos (pT_eq.mp (by omega))))
  exact loop5_1 _ 0 0 par fre pri sls drk pla tks t1 t2 t3 (Nat.lt_succ_self _) (by omega) rfl
set_option maxRecDepth 100000 in
set_option maxHeartbeats 1000000 in
theorem c_X5_partsOf {l : Launch} {E : Ev} {hB b1 b2 b3 b4 b5 b6 b7 b8 b9 b10 : Nat} {c1 : Nat} {f : Nat → Int32} {σ : Sg} (hR : RepC σ f) (hW : Wf σ) {e1 e2 e3 par fre pri sls drk pla tks : Nat} {t1 t2 t3 : Nat → Int32} {a : Nat} (ha : a < sA σ) : Ct l E yX5_partsOf cX5_partsOf 5 (some FieldType.int) 4 95 [.ref hB, .int (nI a)] [(hB, .inr (5, [.ref b1, .ref b2, .ref b3, .ref b4, .ref b5, .ref b6, .ref b7, .ref b8, .ref b9, .ref b10])), (b1, .inr (4, [.ref c1])), (c1, .inl (eI E, 265, .inl f)), (b7, .inr (0, [.ref e1, .ref e2, .ref e3, .int (nI par), .int (nI fre), .int (nI pri), .int (nI sls), .int (nI drk), .int (nI pla), .int (nI tks)])), (e1, .inl (eI E, 6, .inl t1)), (e2, .inl (eI E, 6, .inl t2)), (e3, .inl (eI E, 6, .inl t3))] (fun v9 w9 => ∃ (par2 fre2 pri2 sls2 drk2 pla2 tks2 : Nat) (ta tb tc : Nat → Int32), v9 = some (.int (nI (paN σ a 20))) ∧ w9 = [(hB, .inr (5, [.ref b1, .ref b2, .ref b3, .ref b4, .ref b5, .ref b6, .ref b7, .ref b8, .ref b9, .ref b10])), (b1, .inr (4, [.ref c1])), (c1, .inl (eI E, 265, .inl f)), (b7, .inr (0, [.ref e1, .ref e2, .ref e3, .int (nI par2), .int (nI fre2), .int (nI pri2), .int (nI sls2), .int (nI drk2), .int (nI pla2), .int (nI tks2)])), (e1, .inl (eI E, 6, .inl ta)), (e2, .inl (eI E, 6, .inl tb)), (e3, .inl (eI E, 6, .inl tc))]) := by
  have hwP := hW.P
  have hwA := hW.A
  have hwS := hW.S
  refine ct_of (by decide +kernel) (Nat.le_of_ble_eq_true rfl) (fun ω C RT => ?_)
  show ω [(hB, .inr (5, [.ref b1, .ref b2, .ref b3, .ref b4, .ref b5, .ref b6, .ref b7, .ref b8, .ref b9, .ref b10])), (b1, .inr (4, [.ref c1])), (c1, .inl (eI E, 265, .inl f)), (b7, .inr (0, [.ref e1, .ref e2, .ref e3, .int (nI par), .int (nI fre), .int (nI pri), .int (nI sls), .int (nI drk), .int (nI pla), .int (nI tks)])), (e1, .inl (eI E, 6, .inl t1)), (e2, .inl (eI E, 6, .inl t2)), (e3, .inl (eI E, 6, .inl t3))] [(0, .ref hB), (1, .int (nI a))] [] 0
  refine r_iconst C dX5_partsOf_0 ki_0 ?_
  refine r_istore_n C (lv' := [(2, .int (nI 0)), (0, .ref hB), (1, .int (nI a))]) dX5_partsOf_1 rfl (by decide) rfl ?_
  refine r_iconst C dX5_partsOf_2 ki_0 ?_
  refine r_istore_n C (lv' := [(3, .int (nI 0)), (2, .int (nI 0)), (0, .ref hB), (1, .int (nI a))]) dX5_partsOf_3 rfl (by decide) rfl ?_
  have loop4_1 : ∀ (dd9 : Nat) (n : Nat) (x : Nat) (u1 : Nat) (u2 : Nat) (u3 : Nat) (u4 : Nat) (u5 : Nat) (u6 : Nat) (u7 : Nat) (w1 : Nat → Int32) (w2 : Nat → Int32) (w3 : Nat → Int32), 20 - n < dd9 → (n ≤ 20) → (x = paN σ a n) → ω [(hB, .inr (5, [.ref b1, .ref b2, .ref b3, .ref b4, .ref b5, .ref b6, .ref b7, .ref b8, .ref b9, .ref b10])), (b1, .inr (4, [.ref c1])), (c1, .inl (eI E, 265, .inl f)), (b7, .inr (0, [.ref e1, .ref e2, .ref e3, .int (nI u1), .int (nI u2), .int (nI u3), .int (nI u4), .int (nI u5), .int (nI u6), .int (nI u7)])), (e1, .inl (eI E, 6, .inl w1)), (e2, .inl (eI E, 6, .inl w2)), (e3, .inl (eI E, 6, .inl w3))] [(3, .int (nI n)), (2, .int (nI x)), (0, .ref hB), (1, .int (nI a))] [] 4 := by
    intro dd9
    induction dd9 with
    | zero => intro n x u1 u2 u3 u4 u5 u6 u7 w1 w2 w3 hd; exact absurd hd (Nat.not_lt_zero _)
    | succ dd9 ih2 =>
      intro n x u1 u2 u3 u4 u5 u6 u7 w1 w2 w3 hd hn hx
      have hxl : x < 64 := by rw [hx]; exact paN_lt hW a n
      refine r_iload_n C (i := 3) 0 dX5_partsOf_4 rfl rfl ?_
      refine r_bipush C dX5_partsOf_5 kb_20 ?_
      refine r_icmp_ge C (c9 := 20 ≤ n) 69 dX5_partsOf_7 (by decide) (c_leNN (by omega) (by omega)) (fun h7_3 => ?_) (fun h7_3 => ?_)
      · refine r_iload_n C (i := 2) 1 dX5_partsOf_69 rfl rfl ?_
        exact RT.1 _ _ _ _ _ dX5_partsOf_70 rfl rfl (⟨_, _, _, _, _, _, _, _, _, _, sv (congrArg nI (by rw [hx, (by omega : n = 20)])), rfl⟩) rfl
      · refine r_aload_n C (i := 0) 2 dX5_partsOf_10 rfl rfl ?_
        refine r_get C 0 6 uX5 rfl rfl (by decide) w_1_134 rfl dX5_partsOf_11 ?_
        refine r_aload_n C (i := 0) 2 dX5_partsOf_14 rfl rfl ?_
        refine r_get C 0 0 uX5 rfl rfl (by decide) w_1_128 rfl dX5_partsOf_15 ?_
        refine r_iload_n C (i := 3) 0 dX5_partsOf_18 rfl rfl ?_
        refine r_callV (rest := []) C (c_X0_workOut (hE := b7) (e1 := e1) (e2 := e2) (e3 := e3) (par := u1) (fre := u2) (pri := u3) (sls := u4) (drk := u5) (pla := u6) (tks := u7) (t1 := w1) (t2 := w2) (t3 := w3) (h0 := b1) (q1 := c1) (f := f) (σ := σ) (n := n) (hR := hR) (hW := hW) (hn := (by omega))) lk_X0_workOut w_3_145 [3, 4, 5, 6, 1, 2] rfl dX5_partsOf_19 rfl rfl rfl rfl ⟨by decide, by decide⟩ (Nat.le_of_ble_eq_true rfl) ?_
        rintro _ _ ⟨par_4, fre_5, pri_6, sls_7, drk_8, pla_9, tks_10, ta_11, tb_12, tc_13, rfl, rfl, hEv_14⟩
        show ω [(hB, .inr (5, [.ref b1, .ref b2, .ref b3, .ref b4, .ref b5, .ref b6, .ref b7, .ref b8, .ref b9, .ref b10])), (b1, .inr (4, [.ref c1])), (c1, .inl (eI E, 265, .inl f)), (b7, .inr (0, [.ref e1, .ref e2, .ref e3, .int (nI par_4), .int (nI fre_5), .int (nI pri_6), .int (nI sls_7), .int (nI drk_8), .int (nI pla_9), .int (nI tks_10)])), (e1, .inl (eI E, 6, .inl ta_11)), (e2, .inl (eI E, 6, .inl tb_12)), (e3, .inl (eI E, 6, .inl tc_13))] [(3, .int (nI n)), (2, .int (nI x)), (0, .ref hB), (1, .int (nI a))] [] 22
        refine r_iconst C dX5_partsOf_22 ki_0 ?_
        refine r_istore C (lv' := [(4, .int (nI 0)), (3, .int (nI n)), (2, .int (nI x)), (0, .ref hB), (1, .int (nI a))]) dX5_partsOf_23 (by decide) rfl ?_
        have loop25_15 : ∀ (dd9 : Nat) (p : Nat) (y : Nat), sP σ - p < dd9 → (p ≤ sP σ) → (y = paN σ a n ||| pq σ n a p) → ω [(hB, .inr (5, [.ref b1, .ref b2, .ref b3, .ref b4, .ref b5, .ref b6, .ref b7, .ref b8, .ref b9, .ref b10])), (b1, .inr (4, [.ref c1])), (c1, .inl (eI E, 265, .inl f)), (b7, .inr (0, [.ref e1, .ref e2, .ref e3, .int (nI par_4), .int (nI fre_5), .int (nI pri_6), .int (nI sls_7), .int (nI drk_8), .int (nI pla_9), .int (nI tks_10)])), (e1, .inl (eI E, 6, .inl ta_11)), (e2, .inl (eI E, 6, .inl tb_12)), (e3, .inl (eI E, 6, .inl tc_13))] [(4, .int (nI p)), (3, .int (nI n)), (2, .int (nI y)), (0, .ref hB), (1, .int (nI a))] [] 25 := by
          intro dd9
          induction dd9 with
          | zero => intro p y hd; exact absurd hd (Nat.not_lt_zero _)
          | succ dd9 ih16 =>
            intro p y hd hp hy
            have hyl : y < 64 := by rw [hy]; exact Nat.or_lt_two_pow (n := 6) (hx ▸ hxl) (pq_lt hW n a hp)
            refine r_iload C (i := 4) 0 dX5_partsOf_25 rfl ?_
            refine r_aload_n C (i := 0) 3 dX5_partsOf_27 rfl rfl ?_
            refine r_get C 0 0 uX5 rfl rfl (by decide) w_1_128 rfl dX5_partsOf_28 ?_
            refine r_readV (rest := [.int (nI p)]) C (c_X4_parts (h0 := b1) (q1 := c1) (f := f) (σ := σ) (hR := hR) (hW := hW)) lk_X4_parts w_3_36 [1, 2] rfl dX5_partsOf_31 rfl rfl rfl rfl ⟨by decide, by decide⟩ (Nat.le_of_ble_eq_true rfl) (st' := [.int (nI (sP σ)), .int (nI p)]) rfl ?_
            refine r_icmp_ge C (c9 := sP σ ≤ p) 63 dX5_partsOf_34 (by decide) (c_leNN (by omega) (by omega)) (fun h34_17 => ?_) (fun h34_17 => ?_)
            · refine r_iinc C (lv' := [(3, .int (nI (n + 1))), (4, .int (nI p)), (2, .int (nI y)), (0, .ref hB), (1, .int (nI a))]) (v := nI (n + 1)) 1 dX5_partsOf_63 rfl (v_inc _) (by decide) rfl ?_
              refine r_goto C 4 dX5_partsOf_66 (by decide) ?_
              refine r_lv (lv' := [(3, .int (nI (n + 1))), (2, .int (nI y)), (0, .ref hB), (1, .int (nI a))]) C [0, 2, 3, 4] rfl ?_
              exact ih2 (n + 1) y par_4 fre_5 pri_6 sls_7 drk_8 pla_9 tks_10 ta_11 tb_12 tc_13 (by omega) (by omega) (by rw [hy, (by omega : p = sP σ)]; exact pa_s)
            · have hpl := pT_le hW (show p < sP σ by omega) (show n < 20 by omega)
              refine r_aload_n C (i := 0) 3 dX5_partsOf_37 rfl rfl ?_
              refine r_get C 0 6 uX5 rfl rfl (by decide) w_1_134 rfl dX5_partsOf_38 ?_
              refine r_iload C (i := 4) 0 dX5_partsOf_41 rfl ?_
              refine r_readV (rest := []) C (c_X0_player (hE := b7) (e1 := e1) (e2 := e2) (e3 := e3) (par := par_4) (fre := fre_5) (pri := pri_6) (sls := sls_7) (drk := drk_8) (pla := pla_9) (tks := tks_10) (t1 := ta_11) (t2 := tb_12) (t3 := tc_13) (σ := σ) (n := n) (p := p) (hEv := hEv_14) (hW := hW) (hp := (by omega))) lk_X0_player w_3_189 [3, 4, 5, 6] rfl dX5_partsOf_43 rfl rfl rfl rfl ⟨by decide, by decide⟩ (Nat.le_of_ble_eq_true rfl) (st' := [.int (mI (pT σ n p))]) rfl ?_
              refine r_iload_n C (i := 1) 4 dX5_partsOf_46 rfl rfl ?_
              refine r_icmp_ne C (c9 := pT σ n p ≠ a + 1) 57 dX5_partsOf_47 (by decide) (c_neMN (by omega) (by omega)) (fun h47_18 => ?_) (fun h47_18 => ?_)
              · refine r_iinc C (lv' := [(4, .int (nI (p + 1))), (3, .int (nI n)), (2, .int (nI y)), (0, .ref hB), (1, .int (nI a))]) (v := nI (p + 1)) 0 dX5_partsOf_57 rfl (v_inc _) (by decide) rfl ?_
                refine r_goto C 25 dX5_partsOf_60 (by decide) ?_
                exact ih16 (p + 1) y (by omega) (by omega) (by rw [pq, if_neg (by omega), hy])
              · refine r_iload_n C (i := 2) 2 dX5_partsOf_50 rfl rfl ?_
                refine r_iconst C dX5_partsOf_51 ki_1 ?_
                refine r_iload C (i := 4) 0 dX5_partsOf_52 rfl ?_
                refine r_ishl (v := nI (2 ^ p)) C dX5_partsOf_54 (v_shl (by omega)) ?_
                refine r_ior (v := nI (y ||| (2 ^ p))) C dX5_partsOf_55 (v_or _ _) ?_
                refine r_istore_n C (lv' := [(2, .int (nI (y ||| (2 ^ p)))), (4, .int (nI p)), (3, .int (nI n)), (0, .ref hB), (1, .int (nI a))]) dX5_partsOf_56 rfl (by decide) rfl ?_
                refine r_iinc C (lv' := [(4, .int (nI (p + 1))), (2, .int (nI (y ||| (2 ^ p)))), (3, .int (nI n)), (0, .ref hB), (1, .int (nI a))]) (v := nI (p + 1)) 1 dX5_partsOf_57 rfl (v_inc _) (by decide) rfl ?_
                refine r_goto C 25 dX5_partsOf_60 (by decide) ?_
                refine r_lv (lv' := [(4, .int (nI (p + 1))), (3, .int (nI n)), (2, .int (nI (y ||| (2 ^ p)))), (0, .ref hB), (1, .int (nI a))]) C [0, 2, 1, 3, 4] rfl ?_
                exact ih16 (p + 1) (y ||| (2 ^ p)) (by omega) (by omega) (by rw [pq, if_pos (by omega), hy, Nat.or_assoc])
        exact loop25_15 _ 0 x (Nat.lt_succ_self _) (by omega) (by rw [pq, Nat.or_zero]; exact hx)
  exact loop4_1 _ 0 0 par fre pri sls drk pla tks t1 t2 t3 (Nat.lt_succ_self _) (by omega) rfl
set_option maxRecDepth 100000 in
set_option maxHeartbeats 1000000 in
theorem c_X5_firstNight {l : Launch} {E : Ev} {s : Nat} {b : Nat → Nat} (hb : ∀ k, b k ≤ 1) (hs : s = bm b 20) : Cr l E yX5_firstNight cX5_firstNight 2 (some FieldType.int) 1 21 [.int (nI s)] [] (some (.int (mI (ffN b 20)))) := by
  have hsl : s < 1048576 := by rw [hs]; exact bm_lt hb 20
  have hbi : ∀ n, n < 20 → (s / 2 ^ n % 2 = 1 ↔ b n = 1) := fun n hn => by rw [hs, bm_bit hb hn]
  refine ct_of (by decide +kernel) (Nat.le_of_ble_eq_true rfl) (fun ω C RT => ?_)
  show ω [] [(0, .int (nI s))] [] 0
  refine r_iconst C dX5_firstNight_0 ki_0 ?_
  refine r_istore_n C (lv' := [(1, .int (nI 0)), (0, .int (nI s))]) dX5_firstNight_1 rfl (by decide) rfl ?_
  have loop2_1 : ∀ (dd9 : Nat) (n : Nat), 20 - n < dd9 → (n ≤ 20) → (∀ j, j < n → b j ≠ 1) → ω [] [(1, .int (nI n)), (0, .int (nI s))] [] 2 := by
    intro dd9
    induction dd9 with
    | zero => intro n hd; exact absurd hd (Nat.not_lt_zero _)
    | succ dd9 ih2 =>
      intro n hd hn hno
      refine r_iload_n C (i := 1) 0 dX5_firstNight_2 rfl rfl ?_
      refine r_bipush C dX5_firstNight_3 kb_20 ?_
      refine r_icmp_ge C (c9 := 20 ≤ n) 24 dX5_firstNight_5 (by decide) (c_leNN (by omega) (by omega)) (fun h5_3 => ?_) (fun h5_3 => ?_)
      · refine r_iconst C dX5_firstNight_24 ki_m1 ?_
        exact RT.1 _ _ _ _ _ dX5_firstNight_25 rfl rfl (rd_i (congrArg mI (ffN_0 (fun j hj => hno j (by omega))).symm)) rfl
      · refine r_iload_n C (i := 0) 1 dX5_firstNight_8 rfl rfl ?_
        refine r_iload_n C (i := 1) 0 dX5_firstNight_9 rfl rfl ?_
        refine r_readS (rest := []) C (c_X5_holds (s := s) (e := n) (hs := (by omega)) (he := (by omega))) lk_X5_holds w_3_239 [] dX5_firstNight_10 rfl rfl rfl ⟨by decide, by decide⟩ (Nat.le_of_ble_eq_true rfl) (st' := [.int (bP (s / 2 ^ n % 2 = 1))]) rfl ?_
        refine r_if_eq C (y := 0) (c9 := ¬ (s / 2 ^ n % 2 = 1)) 18 dX5_firstNight_13 (by decide) z_eqB (fun h13_4 => ?_) (fun h13_4 => ?_)
        · refine r_iinc C (lv' := [(1, .int (nI (n + 1))), (0, .int (nI s))]) (v := nI (n + 1)) 0 dX5_firstNight_18 rfl (v_inc _) (by decide) rfl ?_
          refine r_goto C 2 dX5_firstNight_21 (by decide) ?_
          exact ih2 (n + 1) (by omega) (by omega) (lt_step hno (fun z => h13_4 ((hbi n (by omega)).mpr z)))
        · replace h13_4 : s / 2 ^ n % 2 = 1 := Decidable.not_not.mp h13_4
          refine r_iload_n C (i := 1) 0 dX5_firstNight_16 rfl rfl ?_
          exact RT.1 _ _ _ _ _ dX5_firstNight_17 rfl rfl (rd_i ((mI_s _).symm.trans (congrArg mI (ffN_at ((hbi n (by omega)).mp h13_4) hno (by omega)).symm))) rfl
  exact loop2_1 _ 0 (Nat.lt_succ_self _) (by omega) (fun j hj => absurd hj (Nat.not_lt_zero j))
set_option maxRecDepth 100000 in
set_option maxHeartbeats 1000000 in
theorem c_X5_lastNight {l : Launch} {E : Ev} {s : Nat} {b : Nat → Nat} (hb : ∀ k, b k ≤ 1) (hs : s = bm b 20) : Cr l E yX5_lastNight cX5_lastNight 2 (some FieldType.int) 1 21 [.int (nI s)] [] (some (.int (mI (llN b 20)))) := by
  have hsl : s < 1048576 := by rw [hs]; exact bm_lt hb 20
  have hbi : ∀ n, n < 20 → (s / 2 ^ n % 2 = 1 ↔ b n = 1) := fun n hn => by rw [hs, bm_bit hb hn]
  refine ct_of (by decide +kernel) (Nat.le_of_ble_eq_true rfl) (fun ω C RT => ?_)
  show ω [] [(0, .int (nI s))] [] 0
  refine r_bipush C dX5_lastNight_0 kb_19 ?_
  refine r_istore_n C (lv' := [(1, .int (nI 19)), (0, .int (nI s))]) dX5_lastNight_2 rfl (by decide) rfl ?_
  refine r_lo (lv' := [(1, .int (mI 20)), (0, .int (nI s))]) (by rw [mI_s]) ?_
  have loop3_1 : ∀ (dd9 : Nat) (q : Nat), q < dd9 → (q ≤ 20) → (∀ j, q ≤ j → j < 20 → b j = 0) → ω [] [(1, .int (mI q)), (0, .int (nI s))] [] 3 := by
    intro dd9
    induction dd9 with
    | zero => intro q hd; exact absurd hd (Nat.not_lt_zero _)
    | succ dd9 ih2 =>
      intro q hd hq hno
      refine r_iload_n C (i := 1) 0 dX5_lastNight_3 rfl rfl ?_
      refine r_if_lt C (y := 0) (c9 := q = 0) 23 dX5_lastNight_4 (by decide) (z_ltM (by omega)) (fun h4_3 => ?_) (fun h4_3 => ?_)
      · refine r_iconst C dX5_lastNight_23 ki_m1 ?_
        exact RT.1 _ _ _ _ _ dX5_lastNight_24 rfl rfl (rd_i (congrArg mI (llN_0 (fun j hj => hno j (by omega) hj)).symm)) rfl
      · obtain ⟨q1, rfl⟩ : ∃ q1, q = q1 + 1 := ⟨q - 1, by omega⟩
        refine r_lo (lv' := [(1, .int (nI q1)), (0, .int (nI s))]) (by rw [mI_s]) ?_
        refine r_iload_n C (i := 0) 1 dX5_lastNight_7 rfl rfl ?_
        refine r_iload_n C (i := 1) 0 dX5_lastNight_8 rfl rfl ?_
        refine r_readS (rest := []) C (c_X5_holds (s := s) (e := q1) (hs := (by omega)) (he := (by omega))) lk_X5_holds w_3_239 [] dX5_lastNight_9 rfl rfl rfl ⟨by decide, by decide⟩ (Nat.le_of_ble_eq_true rfl) (st' := [.int (bP (s / 2 ^ q1 % 2 = 1))]) rfl ?_
        refine r_if_eq C (y := 0) (c9 := ¬ (s / 2 ^ q1 % 2 = 1)) 17 dX5_lastNight_12 (by decide) z_eqB (fun h12_4 => ?_) (fun h12_4 => ?_)
        · refine r_iinc C (lv' := [(1, .int (mI q1)), (0, .int (nI s))]) (v := mI q1) 0 dX5_lastNight_17 rfl (v_decM _) (by decide) rfl ?_
          refine r_goto C 3 dX5_lastNight_20 (by decide) ?_
          exact ih2 q1 (by omega) (by omega) (fun j h1 h2 => by
            by_cases e : j = q1
            · subst e; have h3 := hb j; have h4 : ¬ b j = 1 := fun z => h12_4 ((hbi j h2).mpr z); omega
            · exact hno j (by omega) h2)
        · replace h12_4 : s / 2 ^ q1 % 2 = 1 := Decidable.not_not.mp h12_4
          refine r_iload_n C (i := 1) 0 dX5_lastNight_15 rfl rfl ?_
          exact RT.1 _ _ _ _ _ dX5_lastNight_16 rfl rfl (rd_i ((mI_s _).symm.trans (congrArg mI (llN_at (by rw [(hbi q1 (by omega)).mp h12_4]; decide) (by omega) (fun j h1 h2 => hno j (by omega) h2)).symm))) rfl
  exact loop3_1 _ 20 (Nat.lt_succ_self _) (by omega) (fun j h1 h2 => absurd h1 (by omega))
set_option maxRecDepth 100000 in
set_option maxHeartbeats 1000000 in
theorem c_X5_actor__2 {l : Launch} {E : Ev} {hB b1 b2 b3 b4 b5 b6 b7 b8 b9 b10 : Nat} {c1 : Nat} {f : Nat → Int32} {σ : Sg} (hR : RepC σ f) (hW : Wf σ) {e1 e2 e3 par fre pri sls drk pla tks : Nat} {t1 t2 t3 : Nat → Int32} {a : Nat} (ha : a < sA σ) : Ct l E yX5_actor cX5_actor 3 (some FieldType.int) 7 119 [.ref hB, .int (nI a), .int (nI 2)] [(hB, .inr (5, [.ref b1, .ref b2, .ref b3, .ref b4, .ref b5, .ref b6, .ref b7, .ref b8, .ref b9, .ref b10])), (b1, .inr (4, [.ref c1])), (c1, .inl (eI E, 265, .inl f)), (b7, .inr (0, [.ref e1, .ref e2, .ref e3, .int (nI par), .int (nI fre), .int (nI pri), .int (nI sls), .int (nI drk), .int (nI pla), .int (nI tks)])), (e1, .inl (eI E, 6, .inl t1)), (e2, .inl (eI E, 6, .inl t2)), (e3, .inl (eI E, 6, .inl t3))] (fun v9 w9 => ∃ (par2 fre2 pri2 sls2 drk2 pla2 tks2 : Nat) (ta tb tc : Nat → Int32), v9 = some (.int (mI (pfN σ a 20))) ∧ w9 = [(hB, .inr (5, [.ref b1, .ref b2, .ref b3, .ref b4, .ref b5, .ref b6, .ref b7, .ref b8, .ref b9, .ref b10])), (b1, .inr (4, [.ref c1])), (c1, .inl (eI E, 265, .inl f)), (b7, .inr (0, [.ref e1, .ref e2, .ref e3, .int (nI par2), .int (nI fre2), .int (nI pri2), .int (nI sls2), .int (nI drk2), .int (nI pla2), .int (nI tks2)])), (e1, .inl (eI E, 6, .inl ta)), (e2, .inl (eI E, 6, .inl tb)), (e3, .inl (eI E, 6, .inl tc))]) := by
  have hwP := hW.P
  have hwA := hW.A
  have hwS := hW.S
  refine ct_of (by decide +kernel) (Nat.le_of_ble_eq_true rfl) (fun ω C RT => ?_)
  show ω [(hB, .inr (5, [.ref b1, .ref b2, .ref b3, .ref b4, .ref b5, .ref b6, .ref b7, .ref b8, .ref b9, .ref b10])), (b1, .inr (4, [.ref c1])), (c1, .inl (eI E, 265, .inl f)), (b7, .inr (0, [.ref e1, .ref e2, .ref e3, .int (nI par), .int (nI fre), .int (nI pri), .int (nI sls), .int (nI drk), .int (nI pla), .int (nI tks)])), (e1, .inl (eI E, 6, .inl t1)), (e2, .inl (eI E, 6, .inl t2)), (e3, .inl (eI E, 6, .inl t3))] [(0, .ref hB), (1, .int (nI a)), (2, .int (nI 2))] [] 0
  refine r_aload_n C (i := 0) 0 dX5_actor_0 rfl rfl ?_
  refine r_iload_n C (i := 1) 1 dX5_actor_1 rfl rfl ?_
  refine r_readV (rest := []) C (c_X5_requireActor (hB := hB) (b1 := b1) (b2 := b2) (b3 := b3) (b4 := b4) (b5 := b5) (b6 := b6) (b7 := b7) (b8 := b8) (b9 := b9) (b10 := b10) (c1 := c1) (f := f) (σ := σ) (a := a) (hR := hR) (hW := hW) (hx := (by omega))) lk_X5_requireActor w_1_167 [0, 1, 2] rfl dX5_actor_2 rfl rfl rfl rfl ⟨by decide, by decide⟩ (Nat.le_of_ble_eq_true rfl) (st' := []) rfl ?_
  refine r_iload_n C (i := 2) 2 dX5_actor_5 rfl rfl ?_
  refine r_tabIn (off := 56) C 62 dX5_actor_6 (by decide) (by decide) (by decide) (by decide) ?_
  refine r_aload_n C (i := 0) 0 dX5_actor_62 rfl rfl ?_
  refine r_iload_n C (i := 1) 1 dX5_actor_63 rfl rfl ?_
  refine r_callV (rest := []) C (c_X5_nightsOf (hB := hB) (b1 := b1) (b2 := b2) (b3 := b3) (b4 := b4) (b5 := b5) (b6 := b6) (b7 := b7) (b8 := b8) (b9 := b9) (b10 := b10) (c1 := c1) (f := f) (σ := σ) (e1 := e1) (e2 := e2) (e3 := e3) (par := par) (fre := fre) (pri := pri) (sls := sls) (drk := drk) (pla := pla) (tks := tks) (t1 := t1) (t2 := t2) (t3 := t3) (a := a) (hR := hR) (hW := hW) (ha := (by omega))) lk_X5_nightsOf w_3_235 [0, 1, 2, 3, 4, 5, 6] rfl dX5_actor_64 rfl rfl rfl rfl ⟨by decide, by decide⟩ (Nat.le_of_ble_eq_true rfl) ?_
  rintro _ _ ⟨par_1, fre_2, pri_3, sls_4, drk_5, pla_6, tks_7, ta_8, tb_9, tc_10, rfl, rfl⟩
  show ω [(hB, .inr (5, [.ref b1, .ref b2, .ref b3, .ref b4, .ref b5, .ref b6, .ref b7, .ref b8, .ref b9, .ref b10])), (b1, .inr (4, [.ref c1])), (c1, .inl (eI E, 265, .inl f)), (b7, .inr (0, [.ref e1, .ref e2, .ref e3, .int (nI par_1), .int (nI fre_2), .int (nI pri_3), .int (nI sls_4), .int (nI drk_5), .int (nI pla_6), .int (nI tks_7)])), (e1, .inl (eI E, 6, .inl ta_8)), (e2, .inl (eI E, 6, .inl tb_9)), (e3, .inl (eI E, 6, .inl tc_10))] [(0, .ref hB), (1, .int (nI a)), (2, .int (nI 2))] [.int (nI (bm (pbF σ a) 20))] 67
  have hbl := bm_lt (pbF_le σ a) 20
  refine r_readS (rest := []) C (c_X5_firstNight (s := bm (pbF σ a) 20) (b := (pbF σ a)) (hb := (pbF_le σ a)) (hs := rfl)) lk_X5_firstNight w_4_6 [] dX5_actor_67 rfl rfl rfl ⟨by decide, by decide⟩ (Nat.le_of_ble_eq_true rfl) (st' := [.int (mI (ffN (pbF σ a) 20))]) rfl ?_
  exact RT.1 _ _ _ _ _ dX5_actor_70 rfl rfl (⟨_, _, _, _, _, _, _, _, _, _, sv (congrArg mI (ffN_p σ a 20).symm), rfl⟩) rfl
set_option maxRecDepth 100000 in
set_option maxHeartbeats 1000000 in
theorem c_X5_actor__3 {l : Launch} {E : Ev} {hB b1 b2 b3 b4 b5 b6 b7 b8 b9 b10 : Nat} {c1 : Nat} {f : Nat → Int32} {σ : Sg} (hR : RepC σ f) (hW : Wf σ) {e1 e2 e3 par fre pri sls drk pla tks : Nat} {t1 t2 t3 : Nat → Int32} {a : Nat} (ha : a < sA σ) : Ct l E yX5_actor cX5_actor 3 (some FieldType.int) 7 119 [.ref hB, .int (nI a), .int (nI 3)] [(hB, .inr (5, [.ref b1, .ref b2, .ref b3, .ref b4, .ref b5, .ref b6, .ref b7, .ref b8, .ref b9, .ref b10])), (b1, .inr (4, [.ref c1])), (c1, .inl (eI E, 265, .inl f)), (b7, .inr (0, [.ref e1, .ref e2, .ref e3, .int (nI par), .int (nI fre), .int (nI pri), .int (nI sls), .int (nI drk), .int (nI pla), .int (nI tks)])), (e1, .inl (eI E, 6, .inl t1)), (e2, .inl (eI E, 6, .inl t2)), (e3, .inl (eI E, 6, .inl t3))] (fun v9 w9 => ∃ (par2 fre2 pri2 sls2 drk2 pla2 tks2 : Nat) (ta tb tc : Nat → Int32), v9 = some (.int (mI (plN σ a 20))) ∧ w9 = [(hB, .inr (5, [.ref b1, .ref b2, .ref b3, .ref b4, .ref b5, .ref b6, .ref b7, .ref b8, .ref b9, .ref b10])), (b1, .inr (4, [.ref c1])), (c1, .inl (eI E, 265, .inl f)), (b7, .inr (0, [.ref e1, .ref e2, .ref e3, .int (nI par2), .int (nI fre2), .int (nI pri2), .int (nI sls2), .int (nI drk2), .int (nI pla2), .int (nI tks2)])), (e1, .inl (eI E, 6, .inl ta)), (e2, .inl (eI E, 6, .inl tb)), (e3, .inl (eI E, 6, .inl tc))]) := by
  have hwP := hW.P
  have hwA := hW.A
  have hwS := hW.S
  refine ct_of (by decide +kernel) (Nat.le_of_ble_eq_true rfl) (fun ω C RT => ?_)
  show ω [(hB, .inr (5, [.ref b1, .ref b2, .ref b3, .ref b4, .ref b5, .ref b6, .ref b7, .ref b8, .ref b9, .ref b10])), (b1, .inr (4, [.ref c1])), (c1, .inl (eI E, 265, .inl f)), (b7, .inr (0, [.ref e1, .ref e2, .ref e3, .int (nI par), .int (nI fre), .int (nI pri), .int (nI sls), .int (nI drk), .int (nI pla), .int (nI tks)])), (e1, .inl (eI E, 6, .inl t1)), (e2, .inl (eI E, 6, .inl t2)), (e3, .inl (eI E, 6, .inl t3))] [(0, .ref hB), (1, .int (nI a)), (2, .int (nI 3))] [] 0
  refine r_aload_n C (i := 0) 0 dX5_actor_0 rfl rfl ?_
  refine r_iload_n C (i := 1) 1 dX5_actor_1 rfl rfl ?_
  refine r_readV (rest := []) C (c_X5_requireActor (hB := hB) (b1 := b1) (b2 := b2) (b3 := b3) (b4 := b4) (b5 := b5) (b6 := b6) (b7 := b7) (b8 := b8) (b9 := b9) (b10 := b10) (c1 := c1) (f := f) (σ := σ) (a := a) (hR := hR) (hW := hW) (hx := (by omega))) lk_X5_requireActor w_1_167 [0, 1, 2] rfl dX5_actor_2 rfl rfl rfl rfl ⟨by decide, by decide⟩ (Nat.le_of_ble_eq_true rfl) (st' := []) rfl ?_
  refine r_iload_n C (i := 2) 2 dX5_actor_5 rfl rfl ?_
  refine r_tabIn (off := 65) C 71 dX5_actor_6 (by decide) (by decide) (by decide) (by decide) ?_
  refine r_aload_n C (i := 0) 0 dX5_actor_71 rfl rfl ?_
  refine r_iload_n C (i := 1) 1 dX5_actor_72 rfl rfl ?_
  refine r_callV (rest := []) C (c_X5_nightsOf (hB := hB) (b1 := b1) (b2 := b2) (b3 := b3) (b4 := b4) (b5 := b5) (b6 := b6) (b7 := b7) (b8 := b8) (b9 := b9) (b10 := b10) (c1 := c1) (f := f) (σ := σ) (e1 := e1) (e2 := e2) (e3 := e3) (par := par) (fre := fre) (pri := pri) (sls := sls) (drk := drk) (pla := pla) (tks := tks) (t1 := t1) (t2 := t2) (t3 := t3) (a := a) (hR := hR) (hW := hW) (ha := (by omega))) lk_X5_nightsOf w_3_235 [0, 1, 2, 3, 4, 5, 6] rfl dX5_actor_73 rfl rfl rfl rfl ⟨by decide, by decide⟩ (Nat.le_of_ble_eq_true rfl) ?_
  rintro _ _ ⟨par_1, fre_2, pri_3, sls_4, drk_5, pla_6, tks_7, ta_8, tb_9, tc_10, rfl, rfl⟩
  show ω [(hB, .inr (5, [.ref b1, .ref b2, .ref b3, .ref b4, .ref b5, .ref b6, .ref b7, .ref b8, .ref b9, .ref b10])), (b1, .inr (4, [.ref c1])), (c1, .inl (eI E, 265, .inl f)), (b7, .inr (0, [.ref e1, .ref e2, .ref e3, .int (nI par_1), .int (nI fre_2), .int (nI pri_3), .int (nI sls_4), .int (nI drk_5), .int (nI pla_6), .int (nI tks_7)])), (e1, .inl (eI E, 6, .inl ta_8)), (e2, .inl (eI E, 6, .inl tb_9)), (e3, .inl (eI E, 6, .inl tc_10))] [(0, .ref hB), (1, .int (nI a)), (2, .int (nI 3))] [.int (nI (bm (pbF σ a) 20))] 76
  have hbl := bm_lt (pbF_le σ a) 20
  refine r_readS (rest := []) C (c_X5_lastNight (s := bm (pbF σ a) 20) (b := (pbF σ a)) (hb := (pbF_le σ a)) (hs := rfl)) lk_X5_lastNight w_4_9 [] dX5_actor_76 rfl rfl rfl ⟨by decide, by decide⟩ (Nat.le_of_ble_eq_true rfl) (st' := [.int (mI (llN (pbF σ a) 20))]) rfl ?_
  exact RT.1 _ _ _ _ _ dX5_actor_79 rfl rfl (⟨_, _, _, _, _, _, _, _, _, _, sv (congrArg mI (llN_p σ a 20).symm), rfl⟩) rfl
set_option maxRecDepth 100000 in
set_option maxHeartbeats 1000000 in
theorem c_X5_actor__4 {l : Launch} {E : Ev} {hB b1 b2 b3 b4 b5 b6 b7 b8 b9 b10 : Nat} {c1 : Nat} {f : Nat → Int32} {σ : Sg} (hR : RepC σ f) (hW : Wf σ) {e1 e2 e3 par fre pri sls drk pla tks : Nat} {t1 t2 t3 : Nat → Int32} {a : Nat} (ha : a < sA σ) : Ct l E yX5_actor cX5_actor 3 (some FieldType.int) 7 119 [.ref hB, .int (nI a), .int (nI 4)] [(hB, .inr (5, [.ref b1, .ref b2, .ref b3, .ref b4, .ref b5, .ref b6, .ref b7, .ref b8, .ref b9, .ref b10])), (b1, .inr (4, [.ref c1])), (c1, .inl (eI E, 265, .inl f)), (b7, .inr (0, [.ref e1, .ref e2, .ref e3, .int (nI par), .int (nI fre), .int (nI pri), .int (nI sls), .int (nI drk), .int (nI pla), .int (nI tks)])), (e1, .inl (eI E, 6, .inl t1)), (e2, .inl (eI E, 6, .inl t2)), (e3, .inl (eI E, 6, .inl t3))] (fun v9 w9 => ∃ (par2 fre2 pri2 sls2 drk2 pla2 tks2 : Nat) (ta tb tc : Nat → Int32), v9 = some (.int (nI (paN σ a 20))) ∧ w9 = [(hB, .inr (5, [.ref b1, .ref b2, .ref b3, .ref b4, .ref b5, .ref b6, .ref b7, .ref b8, .ref b9, .ref b10])), (b1, .inr (4, [.ref c1])), (c1, .inl (eI E, 265, .inl f)), (b7, .inr (0, [.ref e1, .ref e2, .ref e3, .int (nI par2), .int (nI fre2), .int (nI pri2), .int (nI sls2), .int (nI drk2), .int (nI pla2), .int (nI tks2)])), (e1, .inl (eI E, 6, .inl ta)), (e2, .inl (eI E, 6, .inl tb)), (e3, .inl (eI E, 6, .inl tc))]) := by
  have hwP := hW.P
  have hwA := hW.A
  have hwS := hW.S
  refine ct_of (by decide +kernel) (Nat.le_of_ble_eq_true rfl) (fun ω C RT => ?_)
  show ω [(hB, .inr (5, [.ref b1, .ref b2, .ref b3, .ref b4, .ref b5, .ref b6, .ref b7, .ref b8, .ref b9, .ref b10])), (b1, .inr (4, [.ref c1])), (c1, .inl (eI E, 265, .inl f)), (b7, .inr (0, [.ref e1, .ref e2, .ref e3, .int (nI par), .int (nI fre), .int (nI pri), .int (nI sls), .int (nI drk), .int (nI pla), .int (nI tks)])), (e1, .inl (eI E, 6, .inl t1)), (e2, .inl (eI E, 6, .inl t2)), (e3, .inl (eI E, 6, .inl t3))] [(0, .ref hB), (1, .int (nI a)), (2, .int (nI 4))] [] 0
  refine r_aload_n C (i := 0) 0 dX5_actor_0 rfl rfl ?_
  refine r_iload_n C (i := 1) 1 dX5_actor_1 rfl rfl ?_
  refine r_readV (rest := []) C (c_X5_requireActor (hB := hB) (b1 := b1) (b2 := b2) (b3 := b3) (b4 := b4) (b5 := b5) (b6 := b6) (b7 := b7) (b8 := b8) (b9 := b9) (b10 := b10) (c1 := c1) (f := f) (σ := σ) (a := a) (hR := hR) (hW := hW) (hx := (by omega))) lk_X5_requireActor w_1_167 [0, 1, 2] rfl dX5_actor_2 rfl rfl rfl rfl ⟨by decide, by decide⟩ (Nat.le_of_ble_eq_true rfl) (st' := []) rfl ?_
  refine r_iload_n C (i := 2) 2 dX5_actor_5 rfl rfl ?_
  refine r_tabIn (off := 74) C 80 dX5_actor_6 (by decide) (by decide) (by decide) (by decide) ?_
  refine r_aload_n C (i := 0) 0 dX5_actor_80 rfl rfl ?_
  refine r_iload_n C (i := 1) 1 dX5_actor_81 rfl rfl ?_
  refine r_callV (rest := []) C (c_X5_partsOf (hB := hB) (b1 := b1) (b2 := b2) (b3 := b3) (b4 := b4) (b5 := b5) (b6 := b6) (b7 := b7) (b8 := b8) (b9 := b9) (b10 := b10) (c1 := c1) (f := f) (σ := σ) (e1 := e1) (e2 := e2) (e3 := e3) (par := par) (fre := fre) (pri := pri) (sls := sls) (drk := drk) (pla := pla) (tks := tks) (t1 := t1) (t2 := t2) (t3 := t3) (a := a) (hR := hR) (hW := hW) (ha := (by omega))) lk_X5_partsOf w_4_12 [0, 1, 2, 3, 4, 5, 6] rfl dX5_actor_82 rfl rfl rfl rfl ⟨by decide, by decide⟩ (Nat.le_of_ble_eq_true rfl) ?_
  rintro _ _ ⟨par_1, fre_2, pri_3, sls_4, drk_5, pla_6, tks_7, ta_8, tb_9, tc_10, rfl, rfl⟩
  show ω [(hB, .inr (5, [.ref b1, .ref b2, .ref b3, .ref b4, .ref b5, .ref b6, .ref b7, .ref b8, .ref b9, .ref b10])), (b1, .inr (4, [.ref c1])), (c1, .inl (eI E, 265, .inl f)), (b7, .inr (0, [.ref e1, .ref e2, .ref e3, .int (nI par_1), .int (nI fre_2), .int (nI pri_3), .int (nI sls_4), .int (nI drk_5), .int (nI pla_6), .int (nI tks_7)])), (e1, .inl (eI E, 6, .inl ta_8)), (e2, .inl (eI E, 6, .inl tb_9)), (e3, .inl (eI E, 6, .inl tc_10))] [(0, .ref hB), (1, .int (nI a)), (2, .int (nI 4))] [.int (nI (paN σ a 20))] 85
  exact RT.1 _ _ _ _ _ dX5_actor_85 rfl rfl (⟨_, _, _, _, _, _, _, _, _, _, rfl, rfl⟩) rfl
