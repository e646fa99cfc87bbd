theorem Fre_bit {σ : Sg} {n u fr a : Nat} (h : Fre σ n u fr) : fr / 2 ^ a % 2 = 1 ↔ a < sA σ ∧ can σ n u a := by rw [tbd]; exact h a
theorem nar_le {d : Nat} (h : d ≤ 1) : narrow .boolean (.int (nI d)) = .int (nI d) := by
  rcases (by omega : d = 0 ∨ d = 1) with e | e <;> subst e
  · exact nar_0
  · exact nar_1
theorem slF_y {σ : Sg} {n p u k : Nat} (h1 : sL σ k 0 = n) (h2 : sL σ k 1 = p) (h3 : can σ n u (sL σ k 2)) (h4 : sHm σ (slF σ n p u k) ≤ sL σ k 3 + 1) : k + 1 = slF σ n p u (k + 1) := by
  have h5 : slF σ n p u k = 0 ∨ sL σ (slF σ n p u k - 1) 3 ≤ sL σ k 3 := by
    unfold sHm at h4
    by_cases e : slF σ n p u k = 0
    · exact Or.inl e
    · rw [if_neg e] at h4; exact Or.inr (by omega)
  rw [slF, if_pos ⟨h1, h2, h3, h5⟩]
theorem slF_n {σ : Sg} {n p u k : Nat} (h : ¬ (sL σ k 0 = n ∧ sL σ k 1 = p ∧ can σ n u (sL σ k 2) ∧ sHm σ (slF σ n p u k) ≤ sL σ k 3 + 1)) : slF σ n p u k = slF σ n p u (k + 1) := by
  rw [slF, if_neg]
  rintro ⟨h1, h2, h3, h4⟩
  refine h ⟨h1, h2, h3, ?_⟩
  unfold sHm
  rcases h4 with e | e
  · rw [if_pos e]; omega
  · split <;> omega
theorem slM_bit (σ : Sg) (n k m : Nat) : slM σ n m / 2 ^ k % 2 = 1 ↔ k < m ∧ sL σ k 0 = n := by rw [tbd, slM_tb, decide_eq_true_iff]
theorem unC {σ : Sg} {n p u fr k : Nat} (hF : Fre σ n u fr) (hno : ¬ own σ n p u) (hp : p < sP σ) (ha : sU σ p k < sA σ) : unP σ n p u k = true ↔ fr / 2 ^ sU σ p k % 2 = 1 ∧ ¬ prM σ n (sP σ) / 2 ^ sU σ p k % 2 = 1 := by
  rw [Fre_bit hF, tbd, prM_tb]
  unfold unP
  rw [decide_eq_true_iff, oth_iff]
  constructor
  · rintro ⟨h1, h2⟩
    refine ⟨⟨ha, h1⟩, ?_⟩
    rintro ⟨q, h3, h4⟩
    by_cases e : q = p
    · subst e
      exact hno ⟨by omega, by rw [h4, Nat.add_sub_cancel]; exact h1⟩
    · exact h2 ⟨q, h3, e, h4⟩
  · rintro ⟨⟨-, h1⟩, h2⟩
    exact ⟨h1, fun ⟨q, h3, _, h4⟩ => h2 ⟨q, h3, h4⟩⟩
theorem tk_slip {σ : Sg} {n p u k : Nat} (h : sl σ n p u = k + 1) : tk σ n p u = sL σ k 2 + 1 ∧ why σ n p u = 1 := by
  unfold tk why
  rw [h, if_pos (by omega), if_pos (by omega), Nat.add_sub_cancel]; exact ⟨rfl, rfl⟩
theorem tk_own {σ : Sg} {n p u : Nat} (h : sl σ n p u = 0) (ho : own σ n p u) : tk σ n p u = sR σ p n ∧ why σ n p u = 2 := by
  unfold tk why
  have e : ¬ ((0 : Nat) ≠ 0) := fun z => z rfl
  rw [h, if_neg e, if_neg e, if_pos ho, if_pos ho]; exact ⟨rfl, rfl⟩
theorem tk_un {σ : Sg} {n p u : Nat} (h : sl σ n p u = 0) (ho : ¬ own σ n p u) : tk σ n p u = un σ n p u ∧ why σ n p u = if un σ n p u ≠ 0 then 3 else 0 := by
  unfold tk why
  have e : ¬ ((0 : Nat) ≠ 0) := fun z => z rfl
  rw [h, if_neg e, if_neg e, if_neg ho, if_neg ho]; exact ⟨rfl, rfl⟩
theorem Fre_m {σ : Sg} {n u fr x : Nat} (h : Fre σ n u fr) : Fre σ n (if x = 0 then u else u ||| 2 ^ (x - 1)) (if x = 0 then fr else fr ^^^ (fr &&& 2 ^ (x - 1))) := by
  by_cases e : x = 0
  · rw [if_pos e, if_pos e]; exact h
  · rw [if_neg e, if_neg e]; exact Fre_take h
def EvR (σ : Sg) (n N : Nat) (t1 t2 t3 : Nat → Int32) : Prop := ∀ q, q < N → t1 q = mI (T σ n q) ∧ t2 q = nI (Wy σ n q) ∧ t3 q = mI (Bs σ n q)
theorem EvR_0 (σ : Sg) (n : Nat) (t1 t2 t3 : Nat → Int32) : EvR σ n 0 t1 t2 t3 := fun q hq => absurd hq (Nat.not_lt_zero q)
theorem EvR_s {σ : Sg} {n p : Nat} {t1 t2 t3 : Nat → Int32} (h : EvR σ n p t1 t2 t3) : EvR σ n (p + 1) (upd t1 p (mI (T σ n p))) (upd t2 p (nI (Wy σ n p))) (upd t3 p (mI (Bs σ n p))) := by
  intro q hq
  by_cases e : q = p
  · subst e; exact ⟨pk_us, pk_us, pk_us⟩
  · rw [pk_un e, pk_un e, pk_un e]; exact h q (by omega)
def EvI (σ : Sg) (n par drk pla tks : Nat) (t1 t2 t3 : Nat → Int32) : Prop := par = sP σ ∧ drk = dk σ n ∧ pla = plr σ n ∧ tks = tak σ n ∧ EvR σ n (sP σ) t1 t2 t3
def pT (σ : Sg) (n p : Nat) : Nat := if dk σ n = 0 then T σ n p else 0
def splN (σ : Sg) (n : Nat) : Nat → Nat
  | 0 => 0
  | p + 1 => splN σ n p + if dk σ n = 0 ∧ Bs σ n p ≠ 0 then 1 else 0
theorem splN_le (σ : Sg) (n : Nat) : ∀ p, splN σ n p ≤ p
  | 0 => Nat.le_refl 0
  | p + 1 => by have := splN_le σ n p; rw [splN]; split <;> omega
def biN (σ : Sg) (n : Nat) : Nat → Nat
  | 0 => 0
  | p + 1 => biN σ n p * 10 + (T σ n p - 1)
theorem biN_lt {σ : Sg} (hW : Wf σ) {n : Nat} (hn : n < 20) : ∀ {p : Nat}, p ≤ sP σ → biN σ n p < 10 ^ p
  | 0, _ => by simp [biN]
  | p + 1, h => by
    have h1 := biN_lt hW hn (show p ≤ sP σ by omega)
    have h2 := T_le hW (show p < sP σ by omega) hn
    have h3 := hW.A
    rw [biN, Nat.pow_succ]; omega
def dkS (σ : Sg) : Nat → Nat
  | 0 => 0
  | n + 1 => dkS σ n + dk σ n
def tkS (σ : Sg) : Nat → Nat
  | 0 => 0
  | n + 1 => tkS σ n + tak σ n
theorem dkS_le (σ : Sg) : ∀ n, dkS σ n ≤ n
  | 0 => Nat.le_refl 0
  | n + 1 => by have := dkS_le σ n; have := dk_le σ n; rw [dkS]; omega
theorem tkS_le {σ : Sg} (hW : Wf σ) : ∀ {n : Nat}, n ≤ 20 → tkS σ n ≤ 585 * n
  | 0, _ => Nat.le_refl 0
  | n + 1, h => by have := tkS_le hW (show n ≤ 20 by omega); have := tak_le hW (show n < 20 by omega); rw [tkS]; omega
set_option maxRecDepth 100000 in
set_option maxHeartbeats 1000000 in
theorem c_X0_isFree {l : Launch} {E : Ev} {hE e1 e2 e3 par fre pri sls drk pla tks : Nat} {a : Nat} (ha : a < 32) (hf : fre < 1024) : Cr l E yX0_isFree cX0_isFree 2 (some FieldType.boolean) 0 0 [.ref hE, .int (nI a)] [(hE, .inr (0, [.ref e1, .ref e2, .ref e3, .int (nI par), .int (nI fre), .int (nI pri), .int (nI sls), .int (nI drk), .int (nI pla), .int (nI tks)]))] (some (.int (bP (fre / 2 ^ a % 2 = 1)))) := by
  have hmod : fre / 2 ^ a % 2 < 2 := Nat.mod_lt _ (by decide)
  refine ct_of (by decide +kernel) (Nat.le_of_ble_eq_true rfl) (fun ω C RT => ?_)
  show ω [(hE, .inr (0, [.ref e1, .ref e2, .ref e3, .int (nI par), .int (nI fre), .int (nI pri), .int (nI sls), .int (nI drk), .int (nI pla), .int (nI tks)]))] [(0, .ref hE), (1, .int (nI a))] [] 0
  refine r_iload_n C (i := 1) 1 dX0_isFree_0 rfl rfl ?_
  refine r_if_ltF C (y := 0) (tgt := 19) dX0_isFree_1 (by decide) (fun z => ((by omega) : ¬ (a < 0)) ((z_ltN (by omega)).mp z)) ?_
  refine r_aload_n C (i := 0) 0 dX0_isFree_4 rfl rfl ?_
  refine r_get C 0 4 uX0 rfl rfl (by decide) w_1_83 rfl dX0_isFree_5 ?_
  refine r_iload_n C (i := 1) 1 dX0_isFree_8 rfl rfl ?_
  refine r_iushr (v := nI (fre / 2 ^ a)) C dX0_isFree_9 (v_ushr (by omega) (by omega)) ?_
  refine r_iconst C dX0_isFree_10 ki_1 ?_
  refine r_iand (v := nI ((fre / 2 ^ a) % 2)) C dX0_isFree_11 (v_and1 _) ?_
  refine r_if_eq C (y := 0) (c9 := (fre / 2 ^ a) % 2 = 0) 19 dX0_isFree_12 (by decide) (z_eqN (by omega)) (fun h12_1 => ?_) (fun h12_1 => ?_)
  · refine r_iconst C dX0_isFree_19 ki_0 ?_
    exact RT.1 _ _ _ _ _ dX0_isFree_20 rfl nar_0 (rd_i (bP_f (by omega))) rfl
  · refine r_iconst C dX0_isFree_15 ki_1 ?_
    refine r_goto C 20 dX0_isFree_16 (by decide) ?_
    exact RT.1 _ _ _ _ _ dX0_isFree_20 rfl nar_1 (rd_i (bP_t (by omega))) rfl
set_option maxRecDepth 100000 in
set_option maxHeartbeats 1000000 in
theorem c_X0_isFree__m {l : Launch} {E : Ev} {hE e1 e2 e3 par fre pri sls drk pla tks : Nat} {x : Nat} (hx : x < 32) (hf : fre < 1024) : Cr l E yX0_isFree cX0_isFree 2 (some FieldType.boolean) 0 0 [.ref hE, .int (mI x)] [(hE, .inr (0, [.ref e1, .ref e2, .ref e3, .int (nI par), .int (nI fre), .int (nI pri), .int (nI sls), .int (nI drk), .int (nI pla), .int (nI tks)]))] (some (.int (bP (x ≠ 0 ∧ fre / 2 ^ (x - 1) % 2 = 1)))) := by
  refine ct_of (by decide +kernel) (Nat.le_of_ble_eq_true rfl) (fun ω C RT => ?_)
  show ω [(hE, .inr (0, [.ref e1, .ref e2, .ref e3, .int (nI par), .int (nI fre), .int (nI pri), .int (nI sls), .int (nI drk), .int (nI pla), .int (nI tks)]))] [(0, .ref hE), (1, .int (mI x))] [] 0
  refine r_iload_n C (i := 1) 1 dX0_isFree_0 rfl rfl ?_
  refine r_if_lt C (y := 0) (c9 := x = 0) 19 dX0_isFree_1 (by decide) (z_ltM (by omega)) (fun h1_1 => ?_) (fun h1_1 => ?_)
  · refine r_iconst C dX0_isFree_19 ki_0 ?_
    exact RT.1 _ _ _ _ _ dX0_isFree_20 rfl nar_0 (rd_i (bP_f (fun z => z.1 h1_1))) rfl
  · obtain ⟨a, rfl⟩ : ∃ a, x = a + 1 := ⟨x - 1, by omega⟩
    refine r_lo (lv' := [(0, .ref hE), (1, .int (nI a))]) (by rw [mI_s]) ?_
    have hmod : fre / 2 ^ a % 2 < 2 := Nat.mod_lt _ (by decide)
    refine r_aload_n C (i := 0) 0 dX0_isFree_4 rfl rfl ?_
    refine r_get C 0 4 uX0 rfl rfl (by decide) w_1_83 rfl dX0_isFree_5 ?_
    refine r_iload_n C (i := 1) 1 dX0_isFree_8 rfl rfl ?_
    refine r_iushr (v := nI (fre / 2 ^ a)) C dX0_isFree_9 (v_ushr (by omega) (by omega)) ?_
    refine r_iconst C dX0_isFree_10 ki_1 ?_
    refine r_iand (v := nI ((fre / 2 ^ a) % 2)) C dX0_isFree_11 (v_and1 _) ?_
    refine r_if_eq C (y := 0) (c9 := (fre / 2 ^ a) % 2 = 0) 19 dX0_isFree_12 (by decide) (z_eqN (by omega)) (fun h12_2 => ?_) (fun h12_2 => ?_)
    · refine r_iconst C dX0_isFree_19 ki_0 ?_
      exact RT.1 _ _ _ _ _ dX0_isFree_20 rfl nar_0 (rd_i (bP_f (fun z => by have := z.2; rw [Nat.add_sub_cancel] at this; omega))) rfl
    · refine r_iconst C dX0_isFree_15 ki_1 ?_
      refine r_goto C 20 dX0_isFree_16 (by decide) ?_
      exact RT.1 _ _ _ _ _ dX0_isFree_20 rfl nar_1 (rd_i (bP_t ⟨by omega, by rw [Nat.add_sub_cancel]; omega⟩)) rfl
set_option maxRecDepth 100000 in
set_option maxHeartbeats 1000000 in
theorem c_X0_bestSlip {l : Launch} {E : Ev} {hE e1 e2 e3 par fre pri sls drk pla tks : Nat} {h0 q1 : Nat} {f : Nat → Int32} {σ : Sg} (hR : RepC σ f) (hW : Wf σ) {n u : Nat} (hn : n < 20) (hF : Fre σ n u fre) {p : Nat} (hp : p < 2147483648) (hs : sls = slM σ n (sS σ)) : Cr l E yX0_bestSlip cX0_bestSlip 5 (some FieldType.int) 1 21 [.ref hE, .ref h0, .int (nI p)] [(hE, .inr (0, [.ref e1, .ref e2, .ref e3, .int (nI par), .int (nI fre), .int (nI pri), .int (nI sls), .int (nI drk), .int (nI pla), .int (nI tks)])), (h0, .inr (4, [.ref q1])), (q1, .inl (eI E, 265, .inl f))] (some (.int (mI (sl σ n p u)))) := by
  have hwP := hW.P
  have hwA := hW.A
  have hwS := hW.S
  have hfl := Fre_lt hW hF
  have hsm : sls < 1048576 := by rw [hs]; exact slM_lt32 hW n
  have hsb : ∀ k, sls / 2 ^ k % 2 = 1 ↔ k < sS σ ∧ sL σ k 0 = n := fun k => by rw [hs]; exact slM_bit σ n k _
  have hsi : ∀ k, sls / 2 ^ k ≠ 0 → k < sS σ := fun k z => by rw [hs] at z; exact slM_in z
  have hso : ∀ k, sls / 2 ^ k = 0 → ∀ j, k ≤ j → j < sS σ → sL σ j 0 ≠ n := fun k z => by rw [hs] at z; exact slM_out z
  refine ct_of (by decide +kernel) (Nat.le_of_ble_eq_true rfl) (fun ω C RT => ?_)
  show ω [(hE, .inr (0, [.ref e1, .ref e2, .ref e3, .int (nI par), .int (nI fre), .int (nI pri), .int (nI sls), .int (nI drk), .int (nI pla), .int (nI tks)])), (h0, .inr (4, [.ref q1])), (q1, .inl (eI E, 265, .inl f))] [(0, .ref hE), (1, .ref h0), (2, .int (nI p))] [] 0
  refine r_iconst C dX0_bestSlip_0 ki_m1 ?_
  refine r_istore_n C (lv' := [(3, .int (mI 0)), (0, .ref hE), (1, .ref h0), (2, .int (nI p))]) dX0_bestSlip_1 rfl (by decide) rfl ?_
  refine r_iconst C dX0_bestSlip_2 ki_0 ?_
  refine r_istore C (lv' := [(4, .int (nI 0)), (3, .int (mI 0)), (0, .ref hE), (1, .ref h0), (2, .int (nI p))]) dX0_bestSlip_3 (by decide) rfl ?_
  have loop5_1 : ∀ (dd9 : Nat) (k : Nat) (b : Nat), sS σ - k < dd9 → (k ≤ sS σ) → (b = slF σ n p u k) → ω [(hE, .inr (0, [.ref e1, .ref e2, .ref e3, .int (nI par), .int (nI fre), .int (nI pri), .int (nI sls), .int (nI drk), .int (nI pla), .int (nI tks)])), (h0, .inr (4, [.ref q1])), (q1, .inl (eI E, 265, .inl f))] [(4, .int (nI k)), (3, .int (mI b)), (0, .ref hE), (1, .ref h0), (2, .int (nI p))] [] 5 := by
    intro dd9
    induction dd9 with
    | zero => intro k b hd; exact absurd hd (Nat.not_lt_zero _)
    | succ dd9 ih2 =>
      intro k b hd hk he_b
      have hbk : b ≤ k := by rw [he_b]; exact slF_le σ n p u k
      have hsd : sls / 2 ^ k < 2147483648 := Nat.lt_of_le_of_lt (Nat.div_le_self _ _) (by omega)
      refine r_iload C (i := 4) 0 dX0_bestSlip_5 rfl ?_
      refine r_bipush C dX0_bestSlip_7 kb_20 ?_
      refine r_icmp_ge C (c9 := 20 ≤ k) 80 dX0_bestSlip_9 (by decide) (c_leNN (by omega) (by omega)) (fun h9_3 => ?_) (fun h9_3 => ?_)
      · refine r_iload_n C (i := 3) 1 dX0_bestSlip_80 rfl rfl ?_
        exact RT.1 _ _ _ _ _ dX0_bestSlip_81 rfl rfl (rd_i (congrArg mI (by rw [he_b, (by omega : k = sS σ)]; rfl))) rfl
      · refine r_aload_n C (i := 0) 2 dX0_bestSlip_12 rfl rfl ?_
        refine r_get C 0 6 uX0 rfl rfl (by decide) w_1_85 rfl dX0_bestSlip_13 ?_
        refine r_iload C (i := 4) 0 dX0_bestSlip_16 rfl ?_
        refine r_iushr (v := nI (sls / 2 ^ k)) C dX0_bestSlip_18 (v_ushr (by omega) (by omega)) ?_
        refine r_if_eq C (y := 0) (c9 := sls / 2 ^ k = 0) 80 dX0_bestSlip_19 (by decide) (z_eqN (by omega)) (fun h19_4 => ?_) (fun h19_4 => ?_)
        · refine r_iload_n C (i := 3) 1 dX0_bestSlip_80 rfl rfl ?_
          exact RT.1 _ _ _ _ _ dX0_bestSlip_81 rfl rfl (rd_i (congrArg mI (by rw [he_b]; exact (slF_stop hk (hso k (by omega))).symm))) rfl
        · have hkS : k < sS σ := hsi k (by omega)
          have hl := hW.L hkS
          refine r_aload_n C (i := 0) 2 dX0_bestSlip_22 rfl rfl ?_
          refine r_get C 0 6 uX0 rfl rfl (by decide) w_1_85 rfl dX0_bestSlip_23 ?_
          refine r_iload C (i := 4) 0 dX0_bestSlip_26 rfl ?_
          refine r_readSN (rest := []) C (c_X5_holds (s := sls) (e := k) (hs := (by omega)) (he := (by omega))) lk_X5_holds (List.mem_of_getElem? (i := 8) rfl) [] dX0_bestSlip_28 rfl rfl rfl ⟨by decide, by decide⟩ (Nat.le_of_ble_eq_true rfl) (st' := [.int (bP (sls / 2 ^ k % 2 = 1))]) rfl ?_
          refine r_if_eq C (y := 0) (c9 := ¬ (sls / 2 ^ k % 2 = 1)) 74 dX0_bestSlip_31 (by decide) z_eqB (fun h31_5 => ?_) (fun h31_5 => ?_)
          · refine r_iinc C (lv' := [(4, .int (nI (k + 1))), (3, .int (mI b)), (0, .ref hE), (1, .ref h0), (2, .int (nI p))]) (v := nI (k + 1)) 0 dX0_bestSlip_74 rfl (v_inc _) (by decide) rfl ?_
            refine r_goto C 5 dX0_bestSlip_77 (by decide) ?_
            exact ih2 (k + 1) b (by omega) (by omega) (by rw [he_b]; exact slF_n (fun z => h31_5 ((hsb k).mpr ⟨by omega, z.1⟩)))
          · replace h31_5 : sls / 2 ^ k % 2 = 1 := Decidable.not_not.mp h31_5
            refine r_aload_n C (i := 1) 3 dX0_bestSlip_34 rfl rfl ?_
            refine r_iload C (i := 4) 0 dX0_bestSlip_35 rfl ?_
            refine r_readV (rest := []) C (c_X4_slipPart (h0 := h0) (q1 := q1) (f := f) (σ := σ) (k := k) (hR := hR) (hW := hW) (hk := (by omega))) lk_X4_slipPart w_3_90 [1, 2] rfl dX0_bestSlip_37 rfl rfl rfl rfl ⟨by decide, by decide⟩ (Nat.le_of_ble_eq_true rfl) (st' := [.int (nI (sL σ k 1))]) rfl ?_
            refine r_iload_n C (i := 2) 4 dX0_bestSlip_40 rfl rfl ?_
            refine r_icmp_ne C (c9 := sL σ k 1 ≠ p) 74 dX0_bestSlip_41 (by decide) (c_neNN (by omega) (by omega)) (fun h41_6 => ?_) (fun h41_6 => ?_)
            · refine r_iinc C (lv' := [(4, .int (nI (k + 1))), (3, .int (mI b)), (0, .ref hE), (1, .ref h0), (2, .int (nI p))]) (v := nI (k + 1)) 0 dX0_bestSlip_74 rfl (v_inc _) (by decide) rfl ?_
              refine r_goto C 5 dX0_bestSlip_77 (by decide) ?_
              exact ih2 (k + 1) b (by omega) (by omega) (by rw [he_b]; exact slF_n (fun z => h41_6 z.2.1))
            · refine r_aload_n C (i := 0) 2 dX0_bestSlip_44 rfl rfl ?_
              refine r_aload_n C (i := 1) 3 dX0_bestSlip_45 rfl rfl ?_
              refine r_iload C (i := 4) 0 dX0_bestSlip_46 rfl ?_
              refine r_readV (rest := [.ref hE]) C (c_X4_slipActor (h0 := h0) (q1 := q1) (f := f) (σ := σ) (k := k) (hR := hR) (hW := hW) (hk := (by omega))) lk_X4_slipActor w_3_94 [1, 2] rfl dX0_bestSlip_48 rfl rfl rfl rfl ⟨by decide, by decide⟩ (Nat.le_of_ble_eq_true rfl) (st' := [.int (nI (sL σ k 2)), .ref hE]) rfl ?_
              refine r_readV (rest := []) C (c_X0_isFree (hE := hE) (e1 := e1) (e2 := e2) (e3 := e3) (par := par) (fre := fre) (pri := pri) (sls := sls) (drk := drk) (pla := pla) (tks := tks) (a := sL σ k 2) (ha := (by omega)) (hf := (by omega))) lk_X0_isFree w_3_98 [0] rfl dX0_bestSlip_51 rfl rfl rfl rfl ⟨by decide, by decide⟩ (Nat.le_of_ble_eq_true rfl) (st' := [.int (bP (fre / 2 ^ (sL σ k 2) % 2 = 1))]) rfl ?_
              refine r_if_eq C (y := 0) (c9 := ¬ (fre / 2 ^ (sL σ k 2) % 2 = 1)) 74 dX0_bestSlip_54 (by decide) z_eqB (fun h54_7 => ?_) (fun h54_7 => ?_)
              · refine r_iinc C (lv' := [(4, .int (nI (k + 1))), (3, .int (mI b)), (0, .ref hE), (1, .ref h0), (2, .int (nI p))]) (v := nI (k + 1)) 0 dX0_bestSlip_74 rfl (v_inc _) (by decide) rfl ?_
                refine r_goto C 5 dX0_bestSlip_77 (by decide) ?_
                exact ih2 (k + 1) b (by omega) (by omega) (by rw [he_b]; exact slF_n (fun z => h54_7 ((Fre_bit hF).mpr ⟨by omega, z.2.2.1⟩)))
              · replace h54_7 : fre / 2 ^ (sL σ k 2) % 2 = 1 := Decidable.not_not.mp h54_7
                refine r_aload_n C (i := 1) 3 dX0_bestSlip_57 rfl rfl ?_
                refine r_iload C (i := 4) 0 dX0_bestSlip_58 rfl ?_
                have hh : sHm σ b ≤ 24 := by unfold sHm; split; omega; have := hW.L (show b - 1 < sS σ by omega); omega
                refine r_readV (rest := []) C (c_X4_slipHour (h0 := h0) (q1 := q1) (f := f) (σ := σ) (k := k) (hR := hR) (hW := hW) (hk := (by omega))) lk_X4_slipHour w_3_102 [1, 2] rfl dX0_bestSlip_60 rfl rfl rfl rfl ⟨by decide, by decide⟩ (Nat.le_of_ble_eq_true rfl) (st' := [.int (nI (sL σ k 3))]) rfl ?_
                refine r_aload_n C (i := 1) 3 dX0_bestSlip_63 rfl rfl ?_
                refine r_iload_n C (i := 3) 1 dX0_bestSlip_64 rfl rfl ?_
                refine r_readV (rest := [.int (nI (sL σ k 3))]) C (c_X4_slipHour__m (h0 := h0) (q1 := q1) (f := f) (σ := σ) (x := b) (hR := hR) (hW := hW) (hx := (by omega))) lk_X4_slipHour w_3_102 [1, 2] rfl dX0_bestSlip_65 rfl rfl rfl rfl ⟨by decide, by decide⟩ (Nat.le_of_ble_eq_true rfl) (st' := [.int (mI (sHm σ b)), .int (nI (sL σ k 3))]) rfl ?_
                refine r_icmp_lt C (c9 := sL σ k 3 + 1 < sHm σ b) 74 dX0_bestSlip_68 (by decide) (c_ltNM (by omega) (by omega)) (fun h68_8 => ?_) (fun h68_8 => ?_)
                · refine r_iinc C (lv' := [(4, .int (nI (k + 1))), (3, .int (mI b)), (0, .ref hE), (1, .ref h0), (2, .int (nI p))]) (v := nI (k + 1)) 0 dX0_bestSlip_74 rfl (v_inc _) (by decide) rfl ?_
                  refine r_goto C 5 dX0_bestSlip_77 (by decide) ?_
                  exact ih2 (k + 1) b (by omega) (by omega) (by rw [he_b]; exact slF_n (fun z => by have z4 := z.2.2.2; rw [← he_b] at z4; omega))
                · refine r_iload C (i := 4) 0 dX0_bestSlip_71 rfl ?_
                  refine r_istore_n C (lv' := [(3, .int (nI k)), (4, .int (nI k)), (0, .ref hE), (1, .ref h0), (2, .int (nI p))]) dX0_bestSlip_73 rfl (by decide) rfl ?_
                  refine r_iinc C (lv' := [(4, .int (nI (k + 1))), (3, .int (nI k)), (0, .ref hE), (1, .ref h0), (2, .int (nI p))]) (v := nI (k + 1)) 1 dX0_bestSlip_74 rfl (v_inc _) (by decide) rfl ?_
                  refine r_goto C 5 dX0_bestSlip_77 (by decide) ?_
                  refine r_lo (lv' := [(4, .int (nI (k + 1))), (3, .int (mI (k + 1))), (0, .ref hE), (1, .ref h0), (2, .int (nI p))]) (by rw [mI_s]) ?_
                  exact ih2 (k + 1) (k + 1) (by omega) (by omega) (slF_y ((hsb k).mp (by assumption)).2 (by omega) ((Fre_bit hF).mp (by assumption)).2 (by rw [← he_b]; omega))
  exact loop5_1 _ 0 0 (Nat.lt_succ_self _) (by omega) rfl
set_option maxRecDepth 100000 in
set_option maxHeartbeats 1000000 in
theorem c_X0_bestUnderstudyOf {l : Launch} {E : Ev} {hE e1 e2 e3 par fre pri sls drk pla tks : Nat} {h0 q1 : Nat} {f : Nat → Int32} {σ : Sg} (hR : RepC σ f) (hW : Wf σ) {n u : Nat} (hn : n < 20) (hF : Fre σ n u fre) {p : Nat} (hp : p < sP σ) (hpr : pri = prM σ n (sP σ)) (hno : ¬ own σ n p u) : Cr l E yX0_bestUnderstudyOf cX0_bestUnderstudyOf 5 (some FieldType.int) 1 22 [.ref hE, .ref h0, .int (nI p)] [(hE, .inr (0, [.ref e1, .ref e2, .ref e3, .int (nI par), .int (nI fre), .int (nI pri), .int (nI sls), .int (nI drk), .int (nI pla), .int (nI tks)])), (h0, .inr (4, [.ref q1])), (q1, .inl (eI E, 265, .inl f))] (some (.int (mI (un σ n p u)))) := by
  have hwP := hW.P
  have hwA := hW.A
  have hwS := hW.S
  have hfl := Fre_lt hW hF
  have hpm : pri < 1024 := by rw [hpr]; exact prM_lt hW hn (Nat.le_refl (sP σ))
  have hunC : ∀ {k}, k < sC σ p → (unP σ n p u k = true ↔ fre / 2 ^ sU σ p k % 2 = 1 ∧ ¬ pri / 2 ^ sU σ p k % 2 = 1) := fun hk => by rw [hpr]; exact unC hF hno hp (hW.U hp hk)
  have hwC := hW.C hp
  refine ct_of (by decide +kernel) (Nat.le_of_ble_eq_true rfl) (fun ω C RT => ?_)
  show ω [(hE, .inr (0, [.ref e1, .ref e2, .ref e3, .int (nI par), .int (nI fre), .int (nI pri), .int (nI sls), .int (nI drk), .int (nI pla), .int (nI tks)])), (h0, .inr (4, [.ref q1])), (q1, .inl (eI E, 265, .inl f))] [(0, .ref hE), (1, .ref h0), (2, .int (nI p))] [] 0
  refine r_iconst C dX0_bestUnderstudyOf_0 ki_0 ?_
  refine r_istore_n C (lv' := [(3, .int (nI 0)), (0, .ref hE), (1, .ref h0), (2, .int (nI p))]) dX0_bestUnderstudyOf_1 rfl (by decide) rfl ?_
  have loop2_1 : ∀ (dd9 : Nat) (k : Nat), sC σ p - k < dd9 → (k ≤ sC σ p) → (∀ j, j < k → unP σ n p u j = false) → ω [(hE, .inr (0, [.ref e1, .ref e2, .ref e3, .int (nI par), .int (nI fre), .int (nI pri), .int (nI sls), .int (nI drk), .int (nI pla), .int (nI tks)])), (h0, .inr (4, [.ref q1])), (q1, .inl (eI E, 265, .inl f))] [(3, .int (nI k)), (0, .ref hE), (1, .ref h0), (2, .int (nI p))] [] 2 := by
    intro dd9
    induction dd9 with
    | zero => intro k hd; exact absurd hd (Nat.not_lt_zero _)
    | succ dd9 ih2 =>
      intro k hd hk hno2
      refine r_iload_n C (i := 3) 0 dX0_bestUnderstudyOf_2 rfl rfl ?_
      refine r_aload_n C (i := 1) 2 dX0_bestUnderstudyOf_3 rfl rfl ?_
      refine r_iload_n C (i := 2) 3 dX0_bestUnderstudyOf_4 rfl rfl ?_
      refine r_readV (rest := [.int (nI k)]) C (c_X4_understudies (h0 := h0) (q1 := q1) (f := f) (σ := σ) (p := p) (hR := hR) (hW := hW) (hp := (by omega))) lk_X4_understudies w_3_115 [1, 2] rfl dX0_bestUnderstudyOf_5 rfl rfl rfl rfl ⟨by decide, by decide⟩ (Nat.le_of_ble_eq_true rfl) (st' := [.int (nI (sC σ p)), .int (nI k)]) rfl ?_
      refine r_icmp_ge C (c9 := sC σ p ≤ k) 49 dX0_bestUnderstudyOf_8 (by decide) (c_leNN (by omega) (by omega)) (fun h8_3 => ?_) (fun h8_3 => ?_)
      · refine r_iconst C dX0_bestUnderstudyOf_49 ki_m1 ?_
        exact RT.1 _ _ _ _ _ dX0_bestUnderstudyOf_50 rfl rfl (rd_i (congrArg mI (un_no (fun j hj => hno2 j (by omega))).symm)) rfl
      · refine r_aload_n C (i := 1) 2 dX0_bestUnderstudyOf_11 rfl rfl ?_
        refine r_iload_n C (i := 2) 3 dX0_bestUnderstudyOf_12 rfl rfl ?_
        refine r_iload_n C (i := 3) 0 dX0_bestUnderstudyOf_13 rfl rfl ?_
        have hu := hW.U hp (by omega : k < sC σ p)
        refine r_readV (rest := []) C (c_X4_understudyAt__n (h0 := h0) (q1 := q1) (f := f) (σ := σ) (p := p) (k := k) (hR := hR) (hW := hW) (hp := (by omega)) (hk := (by omega))) lk_X4_understudyAt w_3_116 [1, 2] rfl dX0_bestUnderstudyOf_14 rfl rfl rfl rfl ⟨by decide, by decide⟩ (Nat.le_of_ble_eq_true rfl) (st' := [.int (nI (sU σ p k))]) rfl ?_
        refine r_istore C (lv' := [(4, .int (nI (sU σ p k))), (3, .int (nI k)), (0, .ref hE), (1, .ref h0), (2, .int (nI p))]) dX0_bestUnderstudyOf_17 (by decide) rfl ?_
        refine r_aload_n C (i := 0) 2 dX0_bestUnderstudyOf_19 rfl rfl ?_
        refine r_iload C (i := 4) 0 dX0_bestUnderstudyOf_20 rfl ?_
        refine r_readV (rest := []) C (c_X0_isFree (hE := hE) (e1 := e1) (e2 := e2) (e3 := e3) (par := par) (fre := fre) (pri := pri) (sls := sls) (drk := drk) (pla := pla) (tks := tks) (a := sU σ p k) (ha := (by omega)) (hf := (by omega))) lk_X0_isFree w_3_98 [0] rfl dX0_bestUnderstudyOf_22 rfl rfl rfl rfl ⟨by decide, by decide⟩ (Nat.le_of_ble_eq_true rfl) (st' := [.int (bP (fre / 2 ^ (sU σ p k) % 2 = 1))]) rfl ?_
        refine r_if_eq C (y := 0) (c9 := ¬ (fre / 2 ^ (sU σ p k) % 2 = 1)) 43 dX0_bestUnderstudyOf_25 (by decide) z_eqB (fun h25_4 => ?_) (fun h25_4 => ?_)
        · refine r_iinc C (lv' := [(3, .int (nI (k + 1))), (4, .int (nI (sU σ p k))), (0, .ref hE), (1, .ref h0), (2, .int (nI p))]) (v := nI (k + 1)) 1 dX0_bestUnderstudyOf_43 rfl (v_inc _) (by decide) rfl ?_
          refine r_goto C 2 dX0_bestUnderstudyOf_46 (by decide) ?_
          refine r_lv (lv' := [(3, .int (nI (k + 1))), (0, .ref hE), (1, .ref h0), (2, .int (nI p))]) C [0, 2, 3, 4] rfl ?_
          exact ih2 (k + 1) (by omega) (by omega) (lt_step hno2 (Bool.eq_false_iff.mpr (fun z => h25_4 ((hunC (by omega)).mp z).1)))
        · replace h25_4 : fre / 2 ^ (sU σ p k) % 2 = 1 := Decidable.not_not.mp h25_4
          refine r_aload_n C (i := 0) 2 dX0_bestUnderstudyOf_28 rfl rfl ?_
          refine r_get C 0 5 uX0 rfl rfl (by decide) w_1_84 rfl dX0_bestUnderstudyOf_29 ?_
          refine r_iload C (i := 4) 0 dX0_bestUnderstudyOf_32 rfl ?_
          refine r_readSN (rest := []) C (c_X5_holds (s := pri) (e := sU σ p k) (hs := (by omega)) (he := (by omega))) lk_X5_holds (List.mem_of_getElem? (i := 8) rfl) [] dX0_bestUnderstudyOf_34 rfl rfl rfl ⟨by decide, by decide⟩ (Nat.le_of_ble_eq_true rfl) (st' := [.int (bP (pri / 2 ^ (sU σ p k) % 2 = 1))]) rfl ?_
          refine r_if_ne C (y := 0) (c9 := pri / 2 ^ (sU σ p k) % 2 = 1) 43 dX0_bestUnderstudyOf_37 (by decide) z_neB (fun h37_5 => ?_) (fun h37_5 => ?_)
          · refine r_iinc C (lv' := [(3, .int (nI (k + 1))), (4, .int (nI (sU σ p k))), (0, .ref hE), (1, .ref h0), (2, .int (nI p))]) (v := nI (k + 1)) 1 dX0_bestUnderstudyOf_43 rfl (v_inc _) (by decide) rfl ?_
            refine r_goto C 2 dX0_bestUnderstudyOf_46 (by decide) ?_
            refine r_lv (lv' := [(3, .int (nI (k + 1))), (0, .ref hE), (1, .ref h0), (2, .int (nI p))]) C [0, 2, 3, 4] rfl ?_
            exact ih2 (k + 1) (by omega) (by omega) (lt_step hno2 (Bool.eq_false_iff.mpr (fun z => ((hunC (by omega)).mp z).2 h37_5)))
          · refine r_iload C (i := 4) 0 dX0_bestUnderstudyOf_40 rfl ?_
            exact RT.1 _ _ _ _ _ dX0_bestUnderstudyOf_42 rfl rfl (rd_i ((mI_s _).symm.trans (congrArg mI (un_yes (by omega) ((hunC (by omega)).mpr ⟨by assumption, by assumption⟩) hno2).symm))) rfl
  exact loop2_1 _ 0 (Nat.lt_succ_self _) (by omega) (fun j hj => absurd hj (Nat.not_lt_zero j))
set_option maxRecDepth 100000 in
set_option maxHeartbeats 1000000 in
theorem c_X0_take {l : Launch} {E : Ev} {hE e1 e2 e3 par fre pri sls drk pla tks : Nat} {t1 t2 t3 : Nat → Int32} {p a r : Nat} {z : Int32} (hp : p < 6) (ha : a < 31) : Ct l E yX0_take cX0_take 5 none 0 0 [.ref hE, .int (nI p), .int (nI a), .int (nI r), .int z] [(hE, .inr (0, [.ref e1, .ref e2, .ref e3, .int (nI par), .int (nI fre), .int (nI pri), .int (nI sls), .int (nI drk), .int (nI pla), .int (nI tks)])), (e1, .inl (eI E, 6, .inl t1)), (e2, .inl (eI E, 6, .inl t2)), (e3, .inl (eI E, 6, .inl t3))] (fun v9 w9 => v9 = none ∧ w9 = [(hE, .inr (0, [.ref e1, .ref e2, .ref e3, .int (nI par), .int (nI (fre ^^^ (fre &&& 2 ^ a))), .int (nI pri), .int (nI sls), .int (nI drk), .int (nI (pla ||| 2 ^ a)), .int (nI tks)])), (e1, .inl (eI E, 6, .inl (upd t1 p (nI a)))), (e2, .inl (eI E, 6, .inl (upd t2 p (nI r)))), (e3, .inl (eI E, 6, .inl (upd t3 p z)))]) := by
  refine ct_of (by decide +kernel) (Nat.le_of_ble_eq_true rfl) (fun ω C RT => ?_)
  show ω [(hE, .inr (0, [.ref e1, .ref e2, .ref e3, .int (nI par), .int (nI fre), .int (nI pri), .int (nI sls), .int (nI drk), .int (nI pla), .int (nI tks)])), (e1, .inl (eI E, 6, .inl t1)), (e2, .inl (eI E, 6, .inl t2)), (e3, .inl (eI E, 6, .inl t3))] [(0, .ref hE), (1, .int (nI p)), (2, .int (nI a)), (3, .int (nI r)), (4, .int z)] [] 0
  refine r_iload_n C (i := 1) 1 dX0_take_0 rfl rfl ?_
  refine r_if_ltF C (y := 0) (tgt := 10) dX0_take_1 (by decide) (fun z => ((by omega) : ¬ (p < 0)) ((z_ltN (by omega)).mp z)) ?_
  refine r_iload_n C (i := 1) 1 dX0_take_4 rfl rfl ?_
  refine r_bipush C dX0_take_5 kb_6 ?_
  refine r_icmp_ltT C 11 dX0_take_7 (by decide) ((c_ltNN (by omega) (by omega)).mpr (by omega)) ?_
  refine r_aload_n C (i := 0) 0 dX0_take_11 rfl rfl ?_
  refine r_get C 0 0 uX0 rfl rfl (by decide) w_1_79 rfl dX0_take_12 ?_
  refine r_iload_n C (i := 1) 1 dX0_take_15 rfl rfl ?_
  refine r_iload_n C (i := 2) 2 dX0_take_16 rfl rfl ?_
  refine r_iast (j := p) (ws' := [(hE, .inr (0, [.ref e1, .ref e2, .ref e3, .int (nI par), .int (nI fre), .int (nI pri), .int (nI sls), .int (nI drk), .int (nI pla), .int (nI tks)])), (e1, .inl (eI E, 6, .inl (upd t1 p (nI a)))), (e2, .inl (eI E, 6, .inl t2)), (e3, .inl (eI E, 6, .inl t3))]) C 1 rfl (by omega) (by decide) rfl dX0_take_17 ?_
  refine r_aload_n C (i := 0) 0 dX0_take_18 rfl rfl ?_
  refine r_get C 0 1 uX0 rfl rfl (by decide) w_1_80 rfl dX0_take_19 ?_
  refine r_iload_n C (i := 1) 1 dX0_take_22 rfl rfl ?_
  refine r_iload_n C (i := 3) 3 dX0_take_23 rfl rfl ?_
  refine r_iast (j := p) (ws' := [(hE, .inr (0, [.ref e1, .ref e2, .ref e3, .int (nI par), .int (nI fre), .int (nI pri), .int (nI sls), .int (nI drk), .int (nI pla), .int (nI tks)])), (e1, .inl (eI E, 6, .inl (upd t1 p (nI a)))), (e2, .inl (eI E, 6, .inl (upd t2 p (nI r)))), (e3, .inl (eI E, 6, .inl t3))]) C 2 rfl (by omega) (by decide) rfl dX0_take_24 ?_
  refine r_aload_n C (i := 0) 0 dX0_take_25 rfl rfl ?_
  refine r_get C 0 2 uX0 rfl rfl (by decide) w_1_81 rfl dX0_take_26 ?_
  refine r_iload_n C (i := 1) 1 dX0_take_29 rfl rfl ?_
  refine r_iload C (i := 4) 4 dX0_take_30 rfl ?_
  refine r_iast (j := p) (ws' := [(hE, .inr (0, [.ref e1, .ref e2, .ref e3, .int (nI par), .int (nI fre), .int (nI pri), .int (nI sls), .int (nI drk), .int (nI pla), .int (nI tks)])), (e1, .inl (eI E, 6, .inl (upd t1 p (nI a)))), (e2, .inl (eI E, 6, .inl (upd t2 p (nI r)))), (e3, .inl (eI E, 6, .inl (upd t3 p z)))]) C 3 rfl (by omega) (by decide) rfl dX0_take_32 ?_
  refine r_iload_n C (i := 2) 2 dX0_take_33 rfl rfl ?_
  refine r_iconst C dX0_take_34 ki_m1 ?_
  refine r_icmp_eqF C (tgt := 64) dX0_take_35 (by decide) (fun z => ((by omega) : ¬ (a + 1 = 0)) ((c_eqNM (by omega) (by omega)).mp z)) ?_
  refine r_aload_n C (i := 0) 0 dX0_take_38 rfl rfl ?_
  refine r_dup C dX0_take_39 rfl ?_
  refine r_get C 0 4 uX0 rfl rfl (by decide) w_1_83 rfl dX0_take_40 ?_
  refine r_iconst C dX0_take_43 ki_1 ?_
  refine r_iload_n C (i := 2) 2 dX0_take_44 rfl rfl ?_
  refine r_ishl (v := nI (2 ^ a)) C dX0_take_45 (v_shl (by omega)) ?_
  refine r_iconst C dX0_take_46 ki_m1 ?_
  refine r_ixor (v := (nI (2 ^ a) ^^^ mI 0)) C dX0_take_47 rfl ?_
  refine r_iand (v := nI (fre ^^^ (fre &&& (2 ^ a)))) C dX0_take_48 (v_andnot _ _) ?_
  refine r_put (ws' := [(hE, .inr (0, [.ref e1, .ref e2, .ref e3, .int (nI par), .int (nI (fre ^^^ (fre &&& (2 ^ a)))), .int (nI pri), .int (nI sls), .int (nI drk), .int (nI pla), .int (nI tks)])), (e1, .inl (eI E, 6, .inl (upd t1 p (nI a)))), (e2, .inl (eI E, 6, .inl (upd t2 p (nI r)))), (e3, .inl (eI E, 6, .inl (upd t3 p z)))]) C 0 4 uX0 rfl tyX0_ok nmX0 rfl (by decide) w_1_83 rfl (tyX0_ok 4 (by decide)) rfl rfl (Nat.le_of_ble_eq_true rfl) rfl dX0_take_49 ?_
  refine r_aload_n C (i := 0) 0 dX0_take_52 rfl rfl ?_
  refine r_dup C dX0_take_53 rfl ?_
  refine r_get C 0 8 uX0 rfl rfl (by decide) w_1_87 rfl dX0_take_54 ?_
  refine r_iconst C dX0_take_57 ki_1 ?_
  refine r_iload_n C (i := 2) 2 dX0_take_58 rfl rfl ?_
  refine r_ishl (v := nI (2 ^ a)) C dX0_take_59 (v_shl (by omega)) ?_
  refine r_ior (v := nI (pla ||| (2 ^ a))) C dX0_take_60 (v_or _ _) ?_
  refine r_put (ws' := [(hE, .inr (0, [.ref e1, .ref e2, .ref e3, .int (nI par), .int (nI (fre ^^^ (fre &&& (2 ^ a)))), .int (nI pri), .int (nI sls), .int (nI drk), .int (nI (pla ||| (2 ^ a))), .int (nI tks)])), (e1, .inl (eI E, 6, .inl (upd t1 p (nI a)))), (e2, .inl (eI E, 6, .inl (upd t2 p (nI r)))), (e3, .inl (eI E, 6, .inl (upd t3 p z)))]) C 0 8 uX0 rfl tyX0_ok nmX0 rfl (by decide) w_1_87 rfl (tyX0_ok 8 (by decide)) rfl rfl (Nat.le_of_ble_eq_true rfl) rfl dX0_take_61 ?_
  exact RT.2.2.1 _ _ _ dX0_take_64 rfl (⟨rfl, rfl⟩) rfl
set_option maxRecDepth 100000 in
set_option maxHeartbeats 1000000 in
theorem c_X0_take__m {l : Launch} {E : Ev} {hE e1 e2 e3 par fre pri sls drk pla tks : Nat} {t1 t2 t3 : Nat → Int32} {p x r : Nat} {z : Int32} (hp : p < 6) (ha : x < 31) : Ct l E yX0_take cX0_take 5 none 0 0 [.ref hE, .int (nI p), .int (mI x), .int (nI r), .int z] [(hE, .inr (0, [.ref e1, .ref e2, .ref e3, .int (nI par), .int (nI fre), .int (nI pri), .int (nI sls), .int (nI drk), .int (nI pla), .int (nI tks)])), (e1, .inl (eI E, 6, .inl t1)), (e2, .inl (eI E, 6, .inl t2)), (e3, .inl (eI E, 6, .inl t3))] (fun v9 w9 => v9 = none ∧ w9 = [(hE, .inr (0, [.ref e1, .ref e2, .ref e3, .int (nI par), .int (nI (if x = 0 then fre else fre ^^^ (fre &&& 2 ^ (x - 1)))), .int (nI pri), .int (nI sls), .int (nI drk), .int (nI (if x = 0 then pla else pla ||| 2 ^ (x - 1))), .int (nI tks)])), (e1, .inl (eI E, 6, .inl (upd t1 p (mI x)))), (e2, .inl (eI E, 6, .inl (upd t2 p (nI r)))), (e3, .inl (eI E, 6, .inl (upd t3 p z)))]) := by
  refine ct_of (by decide +kernel) (Nat.le_of_ble_eq_true rfl) (fun ω C RT => ?_)
  show ω [(hE, .inr (0, [.ref e1, .ref e2, .ref e3, .int (nI par), .int (nI fre), .int (nI pri), .int (nI sls), .int (nI drk), .int (nI pla), .int (nI tks)])), (e1, .inl (eI E, 6, .inl t1)), (e2, .inl (eI E, 6, .inl t2)), (e3, .inl (eI E, 6, .inl t3))] [(0, .ref hE), (1, .int (nI p)), (2, .int (mI x)), (3, .int (nI r)), (4, .int z)] [] 0
  refine r_iload_n C (i := 1) 1 dX0_take_0 rfl rfl ?_
  refine r_if_ltF C (y := 0) (tgt := 10) dX0_take_1 (by decide) (fun z => ((by omega) : ¬ (p < 0)) ((z_ltN (by omega)).mp z)) ?_
  refine r_iload_n C (i := 1) 1 dX0_take_4 rfl rfl ?_
  refine r_bipush C dX0_take_5 kb_6 ?_
  refine r_icmp_ltT C 11 dX0_take_7 (by decide) ((c_ltNN (by omega) (by omega)).mpr (by omega)) ?_
  refine r_aload_n C (i := 0) 0 dX0_take_11 rfl rfl ?_
  refine r_get C 0 0 uX0 rfl rfl (by decide) w_1_79 rfl dX0_take_12 ?_
  refine r_iload_n C (i := 1) 1 dX0_take_15 rfl rfl ?_
  refine r_iload_n C (i := 2) 2 dX0_take_16 rfl rfl ?_
  refine r_iast (j := p) (ws' := [(hE, .inr (0, [.ref e1, .ref e2, .ref e3, .int (nI par), .int (nI fre), .int (nI pri), .int (nI sls), .int (nI drk), .int (nI pla), .int (nI tks)])), (e1, .inl (eI E, 6, .inl (upd t1 p (mI x)))), (e2, .inl (eI E, 6, .inl t2)), (e3, .inl (eI E, 6, .inl t3))]) C 1 rfl (by omega) (by decide) rfl dX0_take_17 ?_
  refine r_aload_n C (i := 0) 0 dX0_take_18 rfl rfl ?_
  refine r_get C 0 1 uX0 rfl rfl (by decide) w_1_80 rfl dX0_take_19 ?_
  refine r_iload_n C (i := 1) 1 dX0_take_22 rfl rfl ?_
  refine r_iload_n C (i := 3) 3 dX0_take_23 rfl rfl ?_
  refine r_iast (j := p) (ws' := [(hE, .inr (0, [.ref e1, .ref e2, .ref e3, .int (nI par), .int (nI fre), .int (nI pri), .int (nI sls), .int (nI drk), .int (nI pla), .int (nI tks)])), (e1, .inl (eI E, 6, .inl (upd t1 p (mI x)))), (e2, .inl (eI E, 6, .inl (upd t2 p (nI r)))), (e3, .inl (eI E, 6, .inl t3))]) C 2 rfl (by omega) (by decide) rfl dX0_take_24 ?_
  refine r_aload_n C (i := 0) 0 dX0_take_25 rfl rfl ?_
  refine r_get C 0 2 uX0 rfl rfl (by decide) w_1_81 rfl dX0_take_26 ?_
  refine r_iload_n C (i := 1) 1 dX0_take_29 rfl rfl ?_
  refine r_iload C (i := 4) 4 dX0_take_30 rfl ?_
  refine r_iast (j := p) (ws' := [(hE, .inr (0, [.ref e1, .ref e2, .ref e3, .int (nI par), .int (nI fre), .int (nI pri), .int (nI sls), .int (nI drk), .int (nI pla), .int (nI tks)])), (e1, .inl (eI E, 6, .inl (upd t1 p (mI x)))), (e2, .inl (eI E, 6, .inl (upd t2 p (nI r)))), (e3, .inl (eI E, 6, .inl (upd t3 p z)))]) C 3 rfl (by omega) (by decide) rfl dX0_take_32 ?_
  refine r_iload_n C (i := 2) 2 dX0_take_33 rfl rfl ?_
  refine r_iconst C dX0_take_34 ki_m1 ?_
  refine r_icmp_eq C (c9 := x = 0) 64 dX0_take_35 (by decide) (c_eqMM (by omega) (by omega)) (fun h35_1 => ?_) (fun h35_1 => ?_)
  · exact RT.2.2.1 _ _ _ dX0_take_64 rfl (⟨rfl, by rw [if_pos h35_1, if_pos h35_1]⟩) rfl
  · obtain ⟨a, rfl⟩ : ∃ a, x = a + 1 := ⟨x - 1, by omega⟩
    refine r_lo (lv' := [(0, .ref hE), (1, .int (nI p)), (2, .int (nI a)), (3, .int (nI r)), (4, .int z)]) (by rw [mI_s]) ?_
    refine r_ws (ws' := [(hE, .inr (0, [.ref e1, .ref e2, .ref e3, .int (nI par), .int (nI fre), .int (nI pri), .int (nI sls), .int (nI drk), .int (nI pla), .int (nI tks)])), (e1, .inl (eI E, 6, .inl (upd t1 p (nI a)))), (e2, .inl (eI E, 6, .inl (upd t2 p (nI r)))), (e3, .inl (eI E, 6, .inl (upd t3 p z)))]) (by rw [mI_s]) ?_
    refine r_aload_n C (i := 0) 0 dX0_take_38 rfl rfl ?_
    refine r_dup C dX0_take_39 rfl ?_
    refine r_get C 0 4 uX0 rfl rfl (by decide) w_1_83 rfl dX0_take_40 ?_
    refine r_iconst C dX0_take_43 ki_1 ?_
    refine r_iload_n C (i := 2) 2 dX0_take_44 rfl rfl ?_
    refine r_ishl (v := nI (2 ^ a)) C dX0_take_45 (v_shl (by omega)) ?_
    refine r_iconst C dX0_take_46 ki_m1 ?_
    refine r_ixor (v := (nI (2 ^ a) ^^^ mI 0)) C dX0_take_47 rfl ?_
    refine r_iand (v := nI (fre ^^^ (fre &&& (2 ^ a)))) C dX0_take_48 (v_andnot _ _) ?_
    refine r_put (ws' := [(hE, .inr (0, [.ref e1, .ref e2, .ref e3, .int (nI par), .int (nI (fre ^^^ (fre &&& (2 ^ a)))), .int (nI pri), .int (nI sls), .int (nI drk), .int (nI pla), .int (nI tks)])), (e1, .inl (eI E, 6, .inl (upd t1 p (nI a)))), (e2, .inl (eI E, 6, .inl (upd t2 p (nI r)))), (e3, .inl (eI E, 6, .inl (upd t3 p z)))]) C 0 4 uX0 rfl tyX0_ok nmX0 rfl (by decide) w_1_83 rfl (tyX0_ok 4 (by decide)) rfl rfl (Nat.le_of_ble_eq_true rfl) rfl dX0_take_49 ?_
    refine r_aload_n C (i := 0) 0 dX0_take_52 rfl rfl ?_
    refine r_dup C dX0_take_53 rfl ?_
    refine r_get C 0 8 uX0 rfl rfl (by decide) w_1_87 rfl dX0_take_54 ?_
    refine r_iconst C dX0_take_57 ki_1 ?_
    refine r_iload_n C (i := 2) 2 dX0_take_58 rfl rfl ?_
    refine r_ishl (v := nI (2 ^ a)) C dX0_take_59 (v_shl (by omega)) ?_
    refine r_ior (v := nI (pla ||| (2 ^ a))) C dX0_take_60 (v_or _ _) ?_
    refine r_put (ws' := [(hE, .inr (0, [.ref e1, .ref e2, .ref e3, .int (nI par), .int (nI (fre ^^^ (fre &&& (2 ^ a)))), .int (nI pri), .int (nI sls), .int (nI drk), .int (nI (pla ||| (2 ^ a))), .int (nI tks)])), (e1, .inl (eI E, 6, .inl (upd t1 p (nI a)))), (e2, .inl (eI E, 6, .inl (upd t2 p (nI r)))), (e3, .inl (eI E, 6, .inl (upd t3 p z)))]) C 0 8 uX0 rfl tyX0_ok nmX0 rfl (by decide) w_1_87 rfl (tyX0_ok 8 (by decide)) rfl rfl (Nat.le_of_ble_eq_true rfl) rfl dX0_take_61 ?_
    exact RT.2.2.1 _ _ _ dX0_take_64 rfl (⟨rfl, by rw [if_neg (by omega), if_neg (by omega), Nat.add_sub_cancel, mI_s]⟩) rfl
set_option maxRecDepth 100000 in
set_option maxHeartbeats 1000000 in
theorem c_X0_choose {l : Launch} {E : Ev} {hE e1 e2 e3 par fre pri sls drk pla tks : Nat} {t1 t2 t3 : Nat → Int32} {h0 q1 : Nat} {f : Nat → Int32} {σ : Sg} (hR : RepC σ f) (hW : Wf σ) {n u p : Nat} (hn : n < 20) (hp : p < sP σ) (hF : Fre σ n u fre) (hpr : pri = prM σ n (sP σ)) (hs : sls = slM σ n (sS σ)) : Ct l E yX0_choose cX0_choose 6 none 2 46 [.ref hE, .ref h0, .int (nI n), .int (nI p)] [(hE, .inr (0, [.ref e1, .ref e2, .ref e3, .int (nI par), .int (nI fre), .int (nI pri), .int (nI sls), .int (nI drk), .int (nI pla), .int (nI tks)])), (e1, .inl (eI E, 6, .inl t1)), (e2, .inl (eI E, 6, .inl t2)), (e3, .inl (eI E, 6, .inl t3)), (h0, .inr (4, [.ref q1])), (q1, .inl (eI E, 265, .inl f))] (fun v9 w9 => ∃ fr2 : Nat, v9 = none ∧ w9 = [(hE, .inr (0, [.ref e1, .ref e2, .ref e3, .int (nI par), .int (nI fr2), .int (nI pri), .int (nI sls), .int (nI drk), .int (nI (if tk σ n p u = 0 then pla else pla ||| 2 ^ (tk σ n p u - 1))), .int (nI tks)])), (e1, .inl (eI E, 6, .inl (upd t1 p (mI (tk σ n p u))))), (e2, .inl (eI E, 6, .inl (upd t2 p (nI (why σ n p u))))), (e3, .inl (eI E, 6, .inl (upd t3 p (mI (sl σ n p u))))), (h0, .inr (4, [.ref q1])), (q1, .inl (eI E, 265, .inl f))] ∧ Fre σ n (if tk σ n p u = 0 then u else u ||| 2 ^ (tk σ n p u - 1)) fr2) := by
  have hwP := hW.P
  have hwA := hW.A
  have hwS := hW.S
  have hfl := Fre_lt hW hF
  have hsl := sl_le σ n p u
  have hpr2 := hW.R hp hn
  have hul := un_le hW (n := n) (u := u) hp
  refine ct_of (by decide +kernel) (Nat.le_of_ble_eq_true rfl) (fun ω C RT => ?_)
  show ω [(hE, .inr (0, [.ref e1, .ref e2, .ref e3, .int (nI par), .int (nI fre), .int (nI pri), .int (nI sls), .int (nI drk), .int (nI pla), .int (nI tks)])), (e1, .inl (eI E, 6, .inl t1)), (e2, .inl (eI E, 6, .inl t2)), (e3, .inl (eI E, 6, .inl t3)), (h0, .inr (4, [.ref q1])), (q1, .inl (eI E, 265, .inl f))] [(0, .ref hE), (1, .ref h0), (2, .int (nI n)), (3, .int (nI p))] [] 0
  refine r_aload_n C (i := 0) 0 dX0_choose_0 rfl rfl ?_
  refine r_aload_n C (i := 1) 1 dX0_choose_1 rfl rfl ?_
  refine r_iload_n C (i := 3) 3 dX0_choose_2 rfl rfl ?_
  refine r_readV (rest := []) C (c_X0_bestSlip (hE := hE) (e1 := e1) (e2 := e2) (e3 := e3) (par := par) (fre := fre) (pri := pri) (sls := sls) (drk := drk) (pla := pla) (tks := tks) (h0 := h0) (q1 := q1) (f := f) (σ := σ) (n := n) (u := u) (p := p) (hR := hR) (hW := hW) (hn := (by omega)) (hF := hF) (hp := (by omega)) (hs := hs)) lk_X0_bestSlip w_3_85 [0, 4, 5] rfl dX0_choose_3 rfl rfl rfl rfl ⟨by decide, by decide⟩ (Nat.le_of_ble_eq_true rfl) (st' := [.int (mI (sl σ n p u))]) rfl ?_
  refine r_istore C (lv' := [(4, .int (mI (sl σ n p u))), (0, .ref hE), (1, .ref h0), (2, .int (nI n)), (3, .int (nI p))]) dX0_choose_6 (by decide) rfl ?_
  refine r_iload C (i := 4) 0 dX0_choose_8 rfl ?_
  refine r_iconst C dX0_choose_10 ki_m1 ?_
  refine r_icmp_eq C (c9 := sl σ n p u = 0) 31 dX0_choose_11 (by decide) (c_eqMM (by omega) (by omega)) (fun h11_1 => ?_) (fun h11_1 => ?_)
  · refine r_aload_n C (i := 0) 1 dX0_choose_31 rfl rfl ?_
    refine r_aload_n C (i := 1) 2 dX0_choose_32 rfl rfl ?_
    refine r_iload_n C (i := 3) 4 dX0_choose_33 rfl rfl ?_
    refine r_iload_n C (i := 2) 3 dX0_choose_34 rfl rfl ?_
    refine r_readV (rest := [.ref hE]) C (c_X4_principal (h0 := h0) (q1 := q1) (f := f) (σ := σ) (p := p) (n := n) (hR := hR) (hW := hW) (hp := (by omega)) (hn := (by omega))) lk_X4_principal w_3_110 [4, 5] rfl dX0_choose_35 rfl rfl rfl rfl ⟨by decide, by decide⟩ (Nat.le_of_ble_eq_true rfl) (st' := [.int (mI (sR σ p n)), .ref hE]) rfl ?_
    refine r_readV (rest := []) C (c_X0_isFree__m (hE := hE) (e1 := e1) (e2 := e2) (e3 := e3) (par := par) (fre := fre) (pri := pri) (sls := sls) (drk := drk) (pla := pla) (tks := tks) (x := sR σ p n) (hx := (by omega)) (hf := (by omega))) lk_X0_isFree w_3_98 [0] rfl dX0_choose_38 rfl rfl rfl rfl ⟨by decide, by decide⟩ (Nat.le_of_ble_eq_true rfl) (st' := [.int (bP ((sR σ p n) ≠ 0 ∧ fre / 2 ^ ((sR σ p n) - 1) % 2 = 1))]) rfl ?_
    refine r_if_eq C (y := 0) (c9 := ¬ ((sR σ p n) ≠ 0 ∧ fre / 2 ^ ((sR σ p n) - 1) % 2 = 1)) 60 dX0_choose_41 (by decide) z_eqB (fun h41_2 => ?_) (fun h41_2 => ?_)
    · have hno : ¬ own σ n p u := fun z => h41_2 ⟨z.1, (Fre_bit hF).mpr ⟨by omega, z.2⟩⟩
      refine r_aload_n C (i := 0) 1 dX0_choose_60 rfl rfl ?_
      refine r_aload_n C (i := 1) 2 dX0_choose_61 rfl rfl ?_
      refine r_iload_n C (i := 3) 4 dX0_choose_62 rfl rfl ?_
      refine r_readV (rest := []) C (c_X0_bestUnderstudyOf (hE := hE) (e1 := e1) (e2 := e2) (e3 := e3) (par := par) (fre := fre) (pri := pri) (sls := sls) (drk := drk) (pla := pla) (tks := tks) (h0 := h0) (q1 := q1) (f := f) (σ := σ) (n := n) (u := u) (p := p) (hR := hR) (hW := hW) (hn := (by omega)) (hF := hF) (hp := (by omega)) (hpr := hpr) (hno := hno)) lk_X0_bestUnderstudyOf w_3_111 [0, 4, 5] rfl dX0_choose_63 rfl rfl rfl rfl ⟨by decide, by decide⟩ (Nat.le_of_ble_eq_true rfl) (st' := [.int (mI (un σ n p u))]) rfl ?_
      refine r_istore C (lv' := [(5, .int (mI (un σ n p u))), (4, .int (mI (sl σ n p u))), (0, .ref hE), (1, .ref h0), (2, .int (nI n)), (3, .int (nI p))]) dX0_choose_66 (by decide) rfl ?_
      refine r_aload_n C (i := 0) 2 dX0_choose_68 rfl rfl ?_
      refine r_iload_n C (i := 3) 5 dX0_choose_69 rfl rfl ?_
      refine r_iload C (i := 5) 0 dX0_choose_70 rfl ?_
      refine r_iload C (i := 5) 0 dX0_choose_72 rfl ?_
      refine r_iconst C dX0_choose_74 ki_m1 ?_
      refine r_icmp_ne C (c9 := un σ n p u ≠ 0) 82 dX0_choose_75 (by decide) (c_neMM (by omega) (by omega)) (fun h75_3 => ?_) (fun h75_3 => ?_)
      · refine r_iconst C dX0_choose_82 ki_3 ?_
        refine r_iconst C dX0_choose_83 ki_m1 ?_
        refine r_callV (rest := []) C (c_X0_take__m (hE := hE) (e1 := e1) (e2 := e2) (e3 := e3) (par := par) (fre := fre) (pri := pri) (sls := sls) (drk := drk) (pla := pla) (tks := tks) (t1 := t1) (t2 := t2) (t3 := t3) (p := p) (x := un σ n p u) (r := 3) (z := (mI 0)) (hp := (by omega)) (ha := (by omega))) lk_X0_take w_3_106 [0, 1, 2, 3] rfl dX0_choose_84 rfl rfl rfl rfl ⟨by decide, by decide⟩ (Nat.le_of_ble_eq_true rfl) ?_
        rintro _ _ ⟨rfl, rfl⟩
        show ω [(hE, .inr (0, [.ref e1, .ref e2, .ref e3, .int (nI par), .int (nI (if (un σ n p u) = 0 then fre else fre ^^^ (fre &&& 2 ^ ((un σ n p u) - 1)))), .int (nI pri), .int (nI sls), .int (nI drk), .int (nI (if (un σ n p u) = 0 then pla else pla ||| 2 ^ ((un σ n p u) - 1))), .int (nI tks)])), (e1, .inl (eI E, 6, .inl (upd t1 p (mI (un σ n p u))))), (e2, .inl (eI E, 6, .inl (upd t2 p (nI 3)))), (e3, .inl (eI E, 6, .inl (upd t3 p (mI 0)))), (h0, .inr (4, [.ref q1])), (q1, .inl (eI E, 265, .inl f))] [(5, .int (mI (un σ n p u))), (4, .int (mI (sl σ n p u))), (0, .ref hE), (1, .ref h0), (2, .int (nI n)), (3, .int (nI p))] [] 87
        exact RT.2.2.1 _ _ _ dX0_choose_87 rfl (⟨if un σ n p u = 0 then fre else fre ^^^ (fre &&& 2 ^ (un σ n p u - 1)), rfl, by rw [(tk_un (by omega) hno).1, (tk_un (by omega) hno).2, (by omega : sl σ n p u = 0), if_pos (show un σ n p u ≠ 0 from by omega)], by rw [(tk_un (by omega) hno).1]; exact Fre_m hF⟩) rfl
      · refine r_iconst C dX0_choose_78 ki_0 ?_
        refine r_goto C 83 dX0_choose_79 (by decide) ?_
        refine r_iconst C dX0_choose_83 ki_m1 ?_
        refine r_callV (rest := []) C (c_X0_take__m (hE := hE) (e1 := e1) (e2 := e2) (e3 := e3) (par := par) (fre := fre) (pri := pri) (sls := sls) (drk := drk) (pla := pla) (tks := tks) (t1 := t1) (t2 := t2) (t3 := t3) (p := p) (x := un σ n p u) (r := 0) (z := (mI 0)) (hp := (by omega)) (ha := (by omega))) lk_X0_take w_3_106 [0, 1, 2, 3] rfl dX0_choose_84 rfl rfl rfl rfl ⟨by decide, by decide⟩ (Nat.le_of_ble_eq_true rfl) ?_
        rintro _ _ ⟨rfl, rfl⟩
        show ω [(hE, .inr (0, [.ref e1, .ref e2, .ref e3, .int (nI par), .int (nI (if (un σ n p u) = 0 then fre else fre ^^^ (fre &&& 2 ^ ((un σ n p u) - 1)))), .int (nI pri), .int (nI sls), .int (nI drk), .int (nI (if (un σ n p u) = 0 then pla else pla ||| 2 ^ ((un σ n p u) - 1))), .int (nI tks)])), (e1, .inl (eI E, 6, .inl (upd t1 p (mI (un σ n p u))))), (e2, .inl (eI E, 6, .inl (upd t2 p (nI 0)))), (e3, .inl (eI E, 6, .inl (upd t3 p (mI 0)))), (h0, .inr (4, [.ref q1])), (q1, .inl (eI E, 265, .inl f))] [(5, .int (mI (un σ n p u))), (4, .int (mI (sl σ n p u))), (0, .ref hE), (1, .ref h0), (2, .int (nI n)), (3, .int (nI p))] [] 87
        exact RT.2.2.1 _ _ _ dX0_choose_87 rfl (⟨if un σ n p u = 0 then fre else fre ^^^ (fre &&& 2 ^ (un σ n p u - 1)), rfl, by rw [(tk_un (by omega) hno).1, (tk_un (by omega) hno).2, (by omega : sl σ n p u = 0), if_neg (show ¬ un σ n p u ≠ 0 from by omega)], by rw [(tk_un (by omega) hno).1]; exact Fre_m hF⟩) rfl
    · replace h41_2 : (sR σ p n) ≠ 0 ∧ fre / 2 ^ ((sR σ p n) - 1) % 2 = 1 := Decidable.not_not.mp h41_2
      have hown : own σ n p u := ⟨h41_2.1, ((Fre_bit hF).mp h41_2.2).2⟩
      refine r_aload_n C (i := 0) 1 dX0_choose_44 rfl rfl ?_
      refine r_iload_n C (i := 3) 4 dX0_choose_45 rfl rfl ?_
      refine r_aload_n C (i := 1) 2 dX0_choose_46 rfl rfl ?_
      refine r_iload_n C (i := 3) 4 dX0_choose_47 rfl rfl ?_
      refine r_iload_n C (i := 2) 3 dX0_choose_48 rfl rfl ?_
      refine r_readV (rest := [.int (nI p), .ref hE]) C (c_X4_principal (h0 := h0) (q1 := q1) (f := f) (σ := σ) (p := p) (n := n) (hR := hR) (hW := hW) (hp := (by omega)) (hn := (by omega))) lk_X4_principal w_3_110 [4, 5] rfl dX0_choose_49 rfl rfl rfl rfl ⟨by decide, by decide⟩ (Nat.le_of_ble_eq_true rfl) (st' := [.int (mI (sR σ p n)), .int (nI p), .ref hE]) rfl ?_
      refine r_iconst C dX0_choose_52 ki_2 ?_
      refine r_iconst C dX0_choose_53 ki_m1 ?_
      refine r_callV (rest := []) C (c_X0_take__m (hE := hE) (e1 := e1) (e2 := e2) (e3 := e3) (par := par) (fre := fre) (pri := pri) (sls := sls) (drk := drk) (pla := pla) (tks := tks) (t1 := t1) (t2 := t2) (t3 := t3) (p := p) (x := sR σ p n) (r := 2) (z := (mI 0)) (hp := (by omega)) (ha := (by omega))) lk_X0_take w_3_106 [0, 1, 2, 3] rfl dX0_choose_54 rfl rfl rfl rfl ⟨by decide, by decide⟩ (Nat.le_of_ble_eq_true rfl) ?_
      rintro _ _ ⟨rfl, rfl⟩
      show ω [(hE, .inr (0, [.ref e1, .ref e2, .ref e3, .int (nI par), .int (nI (if (sR σ p n) = 0 then fre else fre ^^^ (fre &&& 2 ^ ((sR σ p n) - 1)))), .int (nI pri), .int (nI sls), .int (nI drk), .int (nI (if (sR σ p n) = 0 then pla else pla ||| 2 ^ ((sR σ p n) - 1))), .int (nI tks)])), (e1, .inl (eI E, 6, .inl (upd t1 p (mI (sR σ p n))))), (e2, .inl (eI E, 6, .inl (upd t2 p (nI 2)))), (e3, .inl (eI E, 6, .inl (upd t3 p (mI 0)))), (h0, .inr (4, [.ref q1])), (q1, .inl (eI E, 265, .inl f))] [(4, .int (mI (sl σ n p u))), (0, .ref hE), (1, .ref h0), (2, .int (nI n)), (3, .int (nI p))] [] 57
      refine r_goto C 87 dX0_choose_57 (by decide) ?_
      exact RT.2.2.1 _ _ _ dX0_choose_87 rfl (⟨fre ^^^ (fre &&& 2 ^ (sR σ p n - 1)), rfl, by rw [(tk_own (by omega) hown).1, (tk_own (by omega) hown).2, (by omega : sl σ n p u = 0), if_neg hown.1, if_neg hown.1], by rw [(tk_own (by omega) hown).1, if_neg hown.1]; exact Fre_take hF⟩) rfl
  · obtain ⟨k, hk⟩ : ∃ k, sl σ n p u = k + 1 := ⟨sl σ n p u - 1, by omega⟩
    have hl := hW.L (show k < sS σ by omega)
    obtain ⟨htk, hwy⟩ := tk_slip hk
    refine r_lo (lv' := [(4, .int (nI k)), (0, .ref hE), (1, .ref h0), (2, .int (nI n)), (3, .int (nI p))]) (by rw [hk, mI_s]) ?_
    refine r_aload_n C (i := 0) 1 dX0_choose_14 rfl rfl ?_
    refine r_iload_n C (i := 3) 4 dX0_choose_15 rfl rfl ?_
    refine r_aload_n C (i := 1) 2 dX0_choose_16 rfl rfl ?_
    refine r_iload C (i := 4) 0 dX0_choose_17 rfl ?_
    refine r_readV (rest := [.int (nI p), .ref hE]) C (c_X4_slipActor (h0 := h0) (q1 := q1) (f := f) (σ := σ) (k := k) (hR := hR) (hW := hW) (hk := (by omega))) lk_X4_slipActor w_3_94 [4, 5] rfl dX0_choose_19 rfl rfl rfl rfl ⟨by decide, by decide⟩ (Nat.le_of_ble_eq_true rfl) (st' := [.int (nI (sL σ k 2)), .int (nI p), .ref hE]) rfl ?_
    refine r_iconst C dX0_choose_22 ki_1 ?_
    refine r_iload C (i := 4) 0 dX0_choose_23 rfl ?_
    refine r_callV (rest := []) C (c_X0_take (hE := hE) (e1 := e1) (e2 := e2) (e3 := e3) (par := par) (fre := fre) (pri := pri) (sls := sls) (drk := drk) (pla := pla) (tks := tks) (t1 := t1) (t2 := t2) (t3 := t3) (p := p) (a := sL σ k 2) (r := 1) (z := (nI k)) (hp := (by omega)) (ha := (by omega))) lk_X0_take w_3_106 [0, 1, 2, 3] rfl dX0_choose_25 rfl rfl rfl rfl ⟨by decide, by decide⟩ (Nat.le_of_ble_eq_true rfl) ?_
    rintro _ _ ⟨rfl, rfl⟩
    show ω [(hE, .inr (0, [.ref e1, .ref e2, .ref e3, .int (nI par), .int (nI (fre ^^^ (fre &&& 2 ^ (sL σ k 2)))), .int (nI pri), .int (nI sls), .int (nI drk), .int (nI (pla ||| 2 ^ (sL σ k 2))), .int (nI tks)])), (e1, .inl (eI E, 6, .inl (upd t1 p (nI (sL σ k 2))))), (e2, .inl (eI E, 6, .inl (upd t2 p (nI 1)))), (e3, .inl (eI E, 6, .inl (upd t3 p (nI k)))), (h0, .inr (4, [.ref q1])), (q1, .inl (eI E, 265, .inl f))] [(4, .int (nI k)), (0, .ref hE), (1, .ref h0), (2, .int (nI n)), (3, .int (nI p))] [] 28
    refine r_goto C 87 dX0_choose_28 (by decide) ?_
    exact RT.2.2.1 _ _ _ dX0_choose_87 rfl (⟨_, rfl, by rw [htk, hwy, hk, mI_s, mI_s, if_neg (by omega), Nat.add_sub_cancel], by rw [htk, if_neg (by omega), Nat.add_sub_cancel]; exact Fre_take hF⟩) rfl
