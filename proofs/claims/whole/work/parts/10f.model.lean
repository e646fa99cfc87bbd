theorem l_nz {d : Nat} (h0 : 0 < d) (hd : d < 2147483648) : ¬ lN d = 0 := fun e => by
  have h1 := congrArg Int64.toInt e
  have h2 : (0 : Int64).toInt = 0 := by decide
  rw [lN_toInt hd] at h1
  omega
theorem bm_all : bm (fun _ => 1) 20 = 1048575 := by decide
theorem RepM_all {σ : Sg} {f : Nat → Int32} (hR : RepM σ f) (hW : Wf σ) {a : Nat} (ha : a < sA σ) : RepM (oAll σ a 20) (upd f (15 + a) (nI 1048575)) := by
  have hwP := hW.P
  have hwA := hW.A
  have hwS := hW.S
  refine ⟨?_, ?_, ?_, ?_, ?_, ?_, ?_, ?_, ?_, ?_⟩
  · rw [pk_un (by omega)]; exact hR.P
  · rw [pk_un (by omega)]; exact hR.A
  · rw [pk_un (by omega)]; exact hR.S
  · intro i hi; rw [pk_un (by omega)]; exact hR.O hi
  · intro a ha
    have ha : a < sA σ := ha
    rw [pk_un (by omega)]; exact hR.F ha
  · intro b hb
    have hb : b < sA σ := hb
    by_cases e : b = a
    · subst e; rw [pk_us]; exact congrArg nI (bm_all.symm.trans (bm_cong (fun m hm => by rw [oAll_I, if_pos ⟨rfl, hm⟩])))
    · rw [pk_un (by omega), hR.I hb]; exact congrArg nI (bm_cong (fun m _ => by rw [oAll_I, if_neg (fun z => e z.1)]))
  · intro q hq
    have hq : q < sP σ := hq
    rw [pk_un (by omega)]; exact hR.C hq
  · intro q k hq hk
    have hq : q < sP σ := hq
    have hk : k < sC σ q := hk
    have := hW.C hq
    rw [pk_un (by omega)]; exact hR.U hq hk
  · intro q n hq hn
    have hq : q < sP σ := hq
    rw [pk_un (by omega)]; exact hR.R hq hn
  · intro k j hk hj
    have hk : k < sS σ := hk
    rw [pk_un (by omega)]; exact hR.L hk hj
theorem RepM_cp {σ : Sg} {f g : Nat → Int32} (hR : RepM σ f) (hW : Wf σ) : RepM σ (va_cpy f g 0 0 255) := RepM_eq hW hR (fun j hj => by rw [cpyWhole hj, Nat.zero_add])
def oFl (σ : Sg) (a n : Nat) : Sg := oIll σ a n (1 - sI σ a n)
theorem bu_y {σ : Sg} {p a b f m d s : Nat} (hb : (b, f, m) = bu σ p a) (hc : p < sP σ ∧ a < sA σ ∧ sC σ p < 4 ∧ rk σ p a = 0) (hd : d = dkS (oStudy σ p a) 20) (hs : s = tkS (oStudy σ p a) 20) (h : b = 0 ∨ d < f ∨ (d = f ∧ m < s)) : (a + 1, d, s) = bu σ p (a + 1) := by
  rw [bu, ← hb, if_pos ⟨hc, by rw [← hd, ← hs]; exact h⟩, hd, hs]
theorem bu_n {σ : Sg} {p a b f m : Nat} (hb : (b, f, m) = bu σ p a) (h : ¬ ((p < sP σ ∧ a < sA σ ∧ sC σ p < 4 ∧ rk σ p a = 0) ∧ (b = 0 ∨ dkS (oStudy σ p a) 20 < f ∨ (dkS (oStudy σ p a) 20 = f ∧ m < tkS (oStudy σ p a) 20)))) : (b, f, m) = bu σ p (a + 1) := by
  rw [bu, ← hb, if_neg h]
theorem nd_y {σ : Sg} {a b m : Nat} (hb : (b, m) = nd σ a) (h : b = 0 ∨ m < dkS (oAll σ a 20) 20) : (a + 1, dkS (oAll σ a 20) 20) = nd σ (a + 1) := by
  rw [nd, ← hb, if_pos h]
theorem nd_n {σ : Sg} {a b m : Nat} (hb : (b, m) = nd σ a) (h : ¬ (b = 0 ∨ m < dkS (oAll σ a 20) 20)) : (b, m) = nd σ (a + 1) := by
  rw [nd, ← hb, if_neg h]
theorem tp_add {q m : Nat} : 2 ^ (q + 1) * m ||| 2 ^ q = 2 ^ (q + 1) * m + 2 ^ q := (Nat.two_pow_add_eq_or_of_lt (Nat.pow_lt_pow_right (by decide) (Nat.lt_succ_self q)) m).symm
set_option maxRecDepth 100000 in
set_option maxHeartbeats 1000000 in
theorem c_X6_ifIll__s {l : Launch} {E : Ev} {hM rf x1 sz x3 x4 x5 ac x7 x8 x9 x10 x11 sp ou : Nat} {t1 t2 t3 : Nat → Int32} {g4 : Nat → Int32} {g : Nat → Int32} {σ : Sg} (hR : RepM σ g) (hW : Wf σ) {a n : Nat} (ha : a < sA σ) (hn : n < 20) : Ct l E yX6_ifIll cX6_ifIll 10 (some FieldType.int) 5 123 [.ref hM, .int (nI a), .int (nI n), .int (nI 1)] [(hM, .inr (6, [.int (nI rf), .ref x1, .int (nI sz), .ref x3, .ref x4, .ref x5, .int (nI ac), .ref x7, .ref x8, .ref x9, .ref x10, .ref x11, .int (nI sp), .int (nI ou)])), (x9, .inl (eI E, 6, .inl t1)), (x10, .inl (eI E, 6, .inl t2)), (x11, .inl (eI E, 6, .inl t3)), (x3, .inl (eI E, 255, .inl g)), (x4, .inl (eI E, 255, .inl g4))] (fun v9 w9 => ∃ ta tb tc td : Nat → Int32, v9 = some (.int (nI (tak (oFl σ a n) n) - nI (tak σ n))) ∧ w9 = [(hM, .inr (6, [.int (nI 0), .ref x1, .int (nI sz), .ref x3, .ref x4, .ref x5, .int (nI ac), .ref x7, .ref x8, .ref x9, .ref x10, .ref x11, .int (nI sp), .int (nI ou)])), (x9, .inl (eI E, 6, .inl ta)), (x10, .inl (eI E, 6, .inl tb)), (x11, .inl (eI E, 6, .inl tc)), (x3, .inl (eI E, 255, .inl g)), (x4, .inl (eI E, 255, .inl td))]) := by
  have hwP := hW.P
  have hwA := hW.A
  have hwS := hW.S
  have hI1 := hW.I a n
  refine ct_of (by decide +kernel) (Nat.le_of_ble_eq_true rfl) (fun ω C RT => ?_)
  show ω [(hM, .inr (6, [.int (nI rf), .ref x1, .int (nI sz), .ref x3, .ref x4, .ref x5, .int (nI ac), .ref x7, .ref x8, .ref x9, .ref x10, .ref x11, .int (nI sp), .int (nI ou)])), (x9, .inl (eI E, 6, .inl t1)), (x10, .inl (eI E, 6, .inl t2)), (x11, .inl (eI E, 6, .inl t3)), (x3, .inl (eI E, 255, .inl g)), (x4, .inl (eI E, 255, .inl g4))] [(0, .ref hM), (1, .int (nI a)), (2, .int (nI n)), (3, .int (nI 1))] [] 0
  refine r_aload_n C (i := 0) 0 dX6_ifIll_0 rfl rfl ?_
  refine r_aload_n C (i := 0) 0 dX6_ifIll_1 rfl rfl ?_
  refine r_get C 0 3 uX6 rfl rfl (by decide) w_5_64 rfl dX6_ifIll_2 ?_
  refine r_iload_n C (i := 1) 1 dX6_ifIll_5 rfl rfl ?_
  refine r_readS (rest := [.ref hM]) C (c_X6_isActor (r := x3) (g := g) (σ := σ) (i := a) (hR := hR) (hW := hW) (hi := (by omega))) lk_X6_isActor w_5_154 [4] dX6_ifIll_6 rfl rfl rfl ⟨by decide, by decide⟩ (Nat.le_of_ble_eq_true rfl) (st' := [.int (bP (a < sA σ)), .ref hM]) rfl ?_
  refine r_if_eq C (y := 0) (c9 := ¬ (a < sA σ)) 19 dX6_ifIll_9 (by decide) z_eqB (fun h9_1 => ?_) (fun h9_1 => ?_)
  · refine r_iconst C dX6_ifIll_19 ki_1 ?_
    refine r_goto C 38 dX6_ifIll_20 (by decide) ?_
    first | (exfalso; omega) | (exfalso; simp_all; done)
  · replace h9_1 : a < sA σ := Decidable.not_not.mp h9_1
    refine r_iload_n C (i := 2) 2 dX6_ifIll_12 rfl rfl ?_
    refine r_readS (rest := [.ref hM]) C (c_X6_isNight (i := n) (hi := (by omega))) lk_X6_isNight w_5_185 [] dX6_ifIll_13 rfl rfl rfl ⟨by decide, by decide⟩ (Nat.le_of_ble_eq_true rfl) (st' := [.int (bP (n ≤ 19)), .ref hM]) rfl ?_
    refine r_if_ne C (y := 0) (c9 := n ≤ 19) 23 dX6_ifIll_16 (by decide) z_neB (fun h16_2 => ?_) (fun h16_2 => ?_)
    · refine r_iload_n C (i := 3) 3 dX6_ifIll_23 rfl rfl ?_
      refine r_i2l (v := lN 1) C dX6_ifIll_24 (v_i2l (by omega)) ?_
      refine r_lconst (v := lN 0) C dX6_ifIll_25 (by decide +kernel) ?_
      refine r_lconst (v := lN 1) C dX6_ifIll_26 (by decide +kernel) ?_
      refine r_readS (rest := [.ref hM]) C (c_X6_in (v := lN 1) (lw := lN 0) (hg := lN 1)) lk_X6_in w_5_113 [] dX6_ifIll_27 rfl rfl rfl ⟨by decide, by decide⟩ (Nat.le_of_ble_eq_true rfl) (st' := [.int (bP (lN 0 ≤ lN 1 ∧ lN 1 ≤ lN 1)), .ref hM]) rfl ?_
      refine r_st (st' := [.int (bP (1 ≤ 1)), .ref hM]) (by rw [bP_c (in_N (by omega) (by omega))]) ?_
      refine r_if_eqF C (y := 0) (tgt := 37) dX6_ifIll_30 (by decide) (fun z => ((by decide) : ¬ (¬ (1 ≤ 1))) (z_eqB.mp z)) ?_
      refine r_iconst C dX6_ifIll_33 ki_0 ?_
      refine r_goto C 38 dX6_ifIll_34 (by decide) ?_
      refine r_callV (rest := []) C (c_X6_refused (hM := hM) (rf := rf) (x1 := x1) (sz := sz) (x3 := x3) (x4 := x4) (x5 := x5) (ac := ac) (x7 := x7) (x8 := x8) (x9 := x9) (x10 := x10) (x11 := x11) (sp := sp) (ou := ou) (w := 0) (hw := (by omega))) lk_X6_refused w_5_116 [0] rfl dX6_ifIll_38 rfl rfl rfl rfl ⟨by decide, by decide⟩ (Nat.le_of_ble_eq_true rfl) ?_
      rintro _ _ ⟨rfl, rfl⟩
      show ω [(hM, .inr (6, [.int (nI 0), .ref x1, .int (nI sz), .ref x3, .ref x4, .ref x5, .int (nI ac), .ref x7, .ref x8, .ref x9, .ref x10, .ref x11, .int (nI sp), .int (nI ou)])), (x9, .inl (eI E, 6, .inl t1)), (x10, .inl (eI E, 6, .inl t2)), (x11, .inl (eI E, 6, .inl t3)), (x3, .inl (eI E, 255, .inl g)), (x4, .inl (eI E, 255, .inl g4))] [(0, .ref hM), (1, .int (nI a)), (2, .int (nI n)), (3, .int (nI 1))] [.int (bP (0 < 0))] 41
      refine r_if_eqT C (y := 0) 46 dX6_ifIll_41 (by decide) (z_eqB.mpr (by decide)) ?_
      refine r_aload_n C (i := 0) 0 dX6_ifIll_46 rfl rfl ?_
      refine r_get C 0 3 uX6 rfl rfl (by decide) w_5_64 rfl dX6_ifIll_47 ?_
      refine r_iconst C dX6_ifIll_50 ki_0 ?_
      refine r_aload_n C (i := 0) 0 dX6_ifIll_51 rfl rfl ?_
      refine r_get C 0 4 uX6 rfl rfl (by decide) w_5_65 rfl dX6_ifIll_52 ?_
      refine r_iconst C dX6_ifIll_55 ki_0 ?_
      refine r_callS (rest := []) C (c_X6_copyState__255_255 (q2 := x3) (q3 := x4) (fa := 0) (ta := 0) (F := g) (F2 := g4) (hf := (by omega)) (ht := (by omega))) lk_X6_copyState w_5_196 [4, 5] dX6_ifIll_56 rfl rfl rfl ⟨by decide, by decide⟩ (Nat.le_of_ble_eq_true rfl) ?_
      rintro _ _ ⟨rfl, rfl⟩
      show ω [(hM, .inr (6, [.int (nI 0), .ref x1, .int (nI sz), .ref x3, .ref x4, .ref x5, .int (nI ac), .ref x7, .ref x8, .ref x9, .ref x10, .ref x11, .int (nI sp), .int (nI ou)])), (x9, .inl (eI E, 6, .inl t1)), (x10, .inl (eI E, 6, .inl t2)), (x11, .inl (eI E, 6, .inl t3)), (x3, .inl (eI E, 255, .inl g)), (x4, .inl (eI E, 255, .inl (va_cpy g g4 0 0 255)))] [(0, .ref hM), (1, .int (nI a)), (2, .int (nI n)), (3, .int (nI 1))] [] 59
      have hcp3 : RepM σ (va_cpy g g4 0 0 255) := RepM_cp hR hW
      refine r_aload_n C (i := 0) 0 dX6_ifIll_59 rfl rfl ?_
      refine r_get C 0 4 uX6 rfl rfl (by decide) w_5_65 rfl dX6_ifIll_60 ?_
      refine r_iload_n C (i := 1) 1 dX6_ifIll_63 rfl rfl ?_
      refine r_iload_n C (i := 2) 2 dX6_ifIll_64 rfl rfl ?_
      have join82_4 : ∀ (b : Nat), (b = 1 - sI σ a n) → ω [(hM, .inr (6, [.int (nI 0), .ref x1, .int (nI sz), .ref x3, .ref x4, .ref x5, .int (nI ac), .ref x7, .ref x8, .ref x9, .ref x10, .ref x11, .int (nI sp), .int (nI ou)])), (x9, .inl (eI E, 6, .inl t1)), (x10, .inl (eI E, 6, .inl t2)), (x11, .inl (eI E, 6, .inl t3)), (x3, .inl (eI E, 255, .inl g)), (x4, .inl (eI E, 255, .inl (va_cpy g g4 0 0 255)))] [(0, .ref hM), (1, .int (nI a)), (2, .int (nI n)), (3, .int (nI 1))] [.int (nI b), .int (nI n), .int (nI a), .ref x4] 82 := by
        intro b hb
        refine r_callS (rest := []) C (c_X6_illOn (r := x4) (g := va_cpy g g4 0 0 255) (σ := σ) (a := a) (n := n) (b := b) (hR := hcp3) (hW := hW) (ha := (by omega)) (hn := (by omega)) (hb := (by omega))) lk_X6_illOn w_5_172 [5] dX6_ifIll_82 rfl rfl rfl ⟨by decide, by decide⟩ (Nat.le_of_ble_eq_true rfl) ?_
        rintro _ _ ⟨g_5, rfl, rfl, hR_6⟩
        have hW_7 : Wf (oIll σ a n b) := oIll_wf hW (by omega) (by omega)
        show ω [(hM, .inr (6, [.int (nI 0), .ref x1, .int (nI sz), .ref x3, .ref x4, .ref x5, .int (nI ac), .ref x7, .ref x8, .ref x9, .ref x10, .ref x11, .int (nI sp), .int (nI ou)])), (x9, .inl (eI E, 6, .inl t1)), (x10, .inl (eI E, 6, .inl t2)), (x11, .inl (eI E, 6, .inl t3)), (x3, .inl (eI E, 255, .inl g)), (x4, .inl (eI E, 255, .inl g_5))] [(0, .ref hM), (1, .int (nI a)), (2, .int (nI n)), (3, .int (nI 1))] [.int (nI (cntI (oIll σ a n b) a 20))] 85
        refine r_pop C dX6_ifIll_85 rfl ?_
        refine r_iload_n C (i := 3) 3 dX6_ifIll_86 rfl rfl ?_
        refine r_iconst C dX6_ifIll_87 ki_1 ?_
        refine r_icmp_neF C (tgt := 111) dX6_ifIll_88 (by decide) (fun z => ((by decide) : ¬ (1 ≠ 1)) ((c_neNN (by omega) (by omega)).mp z)) ?_
        refine r_aload_n C (i := 0) 0 dX6_ifIll_91 rfl rfl ?_
        refine r_aload_n C (i := 0) 0 dX6_ifIll_92 rfl rfl ?_
        refine r_get C 0 4 uX6 rfl rfl (by decide) w_5_65 rfl dX6_ifIll_93 ?_
        refine r_iload_n C (i := 2) 2 dX6_ifIll_96 rfl rfl ?_
        refine r_callV (rest := []) C (c_X6_takings (hM := hM) (rf := 0) (x1 := x1) (sz := sz) (x3 := x3) (x4 := x4) (x5 := x5) (ac := ac) (x7 := x7) (x8 := x8) (x9 := x9) (x10 := x10) (x11 := x11) (sp := sp) (ou := ou) (t1 := t1) (t2 := t2) (t3 := t3) (r := x4) (g := g_5) (σ := (oIll σ a n b)) (n := n) (hR := hR_6) (hW := hW_7) (hn := (by omega))) lk_X6_takings w_5_238 [0, 1, 2, 3, 5] rfl dX6_ifIll_97 rfl rfl rfl rfl ⟨by decide, by decide⟩ (Nat.le_of_ble_eq_true rfl) ?_
        rintro _ _ ⟨ta_8, tb_9, tc_10, rfl, rfl⟩
        show ω [(hM, .inr (6, [.int (nI 0), .ref x1, .int (nI sz), .ref x3, .ref x4, .ref x5, .int (nI ac), .ref x7, .ref x8, .ref x9, .ref x10, .ref x11, .int (nI sp), .int (nI ou)])), (x9, .inl (eI E, 6, .inl ta_8)), (x10, .inl (eI E, 6, .inl tb_9)), (x11, .inl (eI E, 6, .inl tc_10)), (x3, .inl (eI E, 255, .inl g)), (x4, .inl (eI E, 255, .inl g_5))] [(0, .ref hM), (1, .int (nI a)), (2, .int (nI n)), (3, .int (nI 1))] [.int (nI (tak (oIll σ a n b) n))] 100
        refine r_aload_n C (i := 0) 0 dX6_ifIll_100 rfl rfl ?_
        refine r_aload_n C (i := 0) 0 dX6_ifIll_101 rfl rfl ?_
        refine r_get C 0 3 uX6 rfl rfl (by decide) w_5_64 rfl dX6_ifIll_102 ?_
        refine r_iload_n C (i := 2) 2 dX6_ifIll_105 rfl rfl ?_
        refine r_callV (rest := [.int (nI (tak (oIll σ a n b) n))]) C (c_X6_takings (hM := hM) (rf := 0) (x1 := x1) (sz := sz) (x3 := x3) (x4 := x4) (x5 := x5) (ac := ac) (x7 := x7) (x8 := x8) (x9 := x9) (x10 := x10) (x11 := x11) (sp := sp) (ou := ou) (t1 := ta_8) (t2 := tb_9) (t3 := tc_10) (r := x3) (g := g) (σ := σ) (n := n) (hR := hR) (hW := hW) (hn := (by omega))) lk_X6_takings w_5_238 [0, 1, 2, 3, 4] rfl dX6_ifIll_106 rfl rfl rfl rfl ⟨by decide, by decide⟩ (Nat.le_of_ble_eq_true rfl) ?_
        rintro _ _ ⟨ta_11, tb_12, tc_13, rfl, rfl⟩
        show ω [(hM, .inr (6, [.int (nI 0), .ref x1, .int (nI sz), .ref x3, .ref x4, .ref x5, .int (nI ac), .ref x7, .ref x8, .ref x9, .ref x10, .ref x11, .int (nI sp), .int (nI ou)])), (x9, .inl (eI E, 6, .inl ta_11)), (x10, .inl (eI E, 6, .inl tb_12)), (x11, .inl (eI E, 6, .inl tc_13)), (x3, .inl (eI E, 255, .inl g)), (x4, .inl (eI E, 255, .inl g_5))] [(0, .ref hM), (1, .int (nI a)), (2, .int (nI n)), (3, .int (nI 1))] [.int (nI (tak σ n)), .int (nI (tak (oIll σ a n b) n))] 109
        refine r_isub (v := (nI (tak (oIll σ a n b) n) - nI (tak σ n))) C dX6_ifIll_109 rfl ?_
        exact RT.1 _ _ _ _ _ dX6_ifIll_110 rfl rfl (⟨_, _, _, _, sv (by rw [hb]; rfl), rfl⟩) rfl
      refine r_aload_n C (i := 0) 0 dX6_ifIll_65 rfl rfl ?_
      refine r_get C 0 3 uX6 rfl rfl (by decide) w_5_64 rfl dX6_ifIll_66 ?_
      refine r_iload_n C (i := 1) 1 dX6_ifIll_69 rfl rfl ?_
      refine r_iload_n C (i := 2) 2 dX6_ifIll_70 rfl rfl ?_
      refine r_readS (rest := [.int (nI n), .int (nI a), .ref x4]) C (c_X6_isIll (r := x3) (g := g) (σ := σ) (a := a) (n := n) (hR := hR) (hW := hW) (ha := (by omega)) (hn := (by omega))) lk_X6_isIll w_5_221 [4] dX6_ifIll_71 rfl rfl rfl ⟨by decide, by decide⟩ (Nat.le_of_ble_eq_true rfl) (st' := [.int (bP (sI σ a n = 1)), .int (nI n), .int (nI a), .ref x4]) rfl ?_
      refine r_if_ne C (y := 0) (c9 := sI σ a n = 1) 81 dX6_ifIll_74 (by decide) z_neB (fun h74_14 => ?_) (fun h74_14 => ?_)
      · refine r_iconst C dX6_ifIll_81 ki_0 ?_
        exact join82_4 0 (by omega)
      · refine r_iconst C dX6_ifIll_77 ki_1 ?_
        refine r_goto C 82 dX6_ifIll_78 (by decide) ?_
        exact join82_4 1 (by omega)
    · refine r_iconst C dX6_ifIll_19 ki_1 ?_
      refine r_goto C 38 dX6_ifIll_20 (by decide) ?_
      first | (exfalso; omega) | (exfalso; simp_all; done)
set_option maxRecDepth 100000 in
set_option maxHeartbeats 1000000 in
theorem c_X6_ifIll__0 {l : Launch} {E : Ev} {hM rf x1 sz x3 x4 x5 ac x7 x8 x9 x10 x11 sp ou : Nat} {t1 t2 t3 : Nat → Int32} {g4 : Nat → Int32} {g : Nat → Int32} {σ : Sg} (hR : RepM σ g) (hW : Wf σ) {a n : Nat} (ha : a < sA σ) (hn : n < 20) : Ct l E yX6_ifIll cX6_ifIll 10 (some FieldType.int) 5 123 [.ref hM, .int (nI a), .int (nI n), .int (nI 0)] [(hM, .inr (6, [.int (nI rf), .ref x1, .int (nI sz), .ref x3, .ref x4, .ref x5, .int (nI ac), .ref x7, .ref x8, .ref x9, .ref x10, .ref x11, .int (nI sp), .int (nI ou)])), (x9, .inl (eI E, 6, .inl t1)), (x10, .inl (eI E, 6, .inl t2)), (x11, .inl (eI E, 6, .inl t3)), (x3, .inl (eI E, 255, .inl g)), (x4, .inl (eI E, 255, .inl g4))] (fun v9 w9 => ∃ ta tb tc td : Nat → Int32, v9 = some (.int (nI (chg σ (oFl σ a n) n))) ∧ w9 = [(hM, .inr (6, [.int (nI 0), .ref x1, .int (nI sz), .ref x3, .ref x4, .ref x5, .int (nI ac), .ref x7, .ref x8, .ref x9, .ref x10, .ref x11, .int (nI sp), .int (nI ou)])), (x9, .inl (eI E, 6, .inl ta)), (x10, .inl (eI E, 6, .inl tb)), (x11, .inl (eI E, 6, .inl tc)), (x3, .inl (eI E, 255, .inl g)), (x4, .inl (eI E, 255, .inl td))]) := by
  have hwP := hW.P
  have hwA := hW.A
  have hwS := hW.S
  have hI1 := hW.I a n
  refine ct_of (by decide +kernel) (Nat.le_of_ble_eq_true rfl) (fun ω C RT => ?_)
  show ω [(hM, .inr (6, [.int (nI rf), .ref x1, .int (nI sz), .ref x3, .ref x4, .ref x5, .int (nI ac), .ref x7, .ref x8, .ref x9, .ref x10, .ref x11, .int (nI sp), .int (nI ou)])), (x9, .inl (eI E, 6, .inl t1)), (x10, .inl (eI E, 6, .inl t2)), (x11, .inl (eI E, 6, .inl t3)), (x3, .inl (eI E, 255, .inl g)), (x4, .inl (eI E, 255, .inl g4))] [(0, .ref hM), (1, .int (nI a)), (2, .int (nI n)), (3, .int (nI 0))] [] 0
  refine r_aload_n C (i := 0) 0 dX6_ifIll_0 rfl rfl ?_
  refine r_aload_n C (i := 0) 0 dX6_ifIll_1 rfl rfl ?_
  refine r_get C 0 3 uX6 rfl rfl (by decide) w_5_64 rfl dX6_ifIll_2 ?_
  refine r_iload_n C (i := 1) 1 dX6_ifIll_5 rfl rfl ?_
  refine r_readS (rest := [.ref hM]) C (c_X6_isActor (r := x3) (g := g) (σ := σ) (i := a) (hR := hR) (hW := hW) (hi := (by omega))) lk_X6_isActor w_5_154 [4] dX6_ifIll_6 rfl rfl rfl ⟨by decide, by decide⟩ (Nat.le_of_ble_eq_true rfl) (st' := [.int (bP (a < sA σ)), .ref hM]) rfl ?_
  refine r_if_eq C (y := 0) (c9 := ¬ (a < sA σ)) 19 dX6_ifIll_9 (by decide) z_eqB (fun h9_1 => ?_) (fun h9_1 => ?_)
  · refine r_iconst C dX6_ifIll_19 ki_1 ?_
    refine r_goto C 38 dX6_ifIll_20 (by decide) ?_
    first | (exfalso; omega) | (exfalso; simp_all; done)
  · replace h9_1 : a < sA σ := Decidable.not_not.mp h9_1
    refine r_iload_n C (i := 2) 2 dX6_ifIll_12 rfl rfl ?_
    refine r_readS (rest := [.ref hM]) C (c_X6_isNight (i := n) (hi := (by omega))) lk_X6_isNight w_5_185 [] dX6_ifIll_13 rfl rfl rfl ⟨by decide, by decide⟩ (Nat.le_of_ble_eq_true rfl) (st' := [.int (bP (n ≤ 19)), .ref hM]) rfl ?_
    refine r_if_ne C (y := 0) (c9 := n ≤ 19) 23 dX6_ifIll_16 (by decide) z_neB (fun h16_2 => ?_) (fun h16_2 => ?_)
    · refine r_iload_n C (i := 3) 3 dX6_ifIll_23 rfl rfl ?_
      refine r_i2l (v := lN 0) C dX6_ifIll_24 (v_i2l (by omega)) ?_
      refine r_lconst (v := lN 0) C dX6_ifIll_25 (by decide +kernel) ?_
      refine r_lconst (v := lN 1) C dX6_ifIll_26 (by decide +kernel) ?_
      refine r_readS (rest := [.ref hM]) C (c_X6_in (v := lN 0) (lw := lN 0) (hg := lN 1)) lk_X6_in w_5_113 [] dX6_ifIll_27 rfl rfl rfl ⟨by decide, by decide⟩ (Nat.le_of_ble_eq_true rfl) (st' := [.int (bP (lN 0 ≤ lN 0 ∧ lN 0 ≤ lN 1)), .ref hM]) rfl ?_
      refine r_st (st' := [.int (bP (0 ≤ 1)), .ref hM]) (by rw [bP_c (in_N (by omega) (by omega))]) ?_
      refine r_if_eqF C (y := 0) (tgt := 37) dX6_ifIll_30 (by decide) (fun z => ((by decide) : ¬ (¬ (0 ≤ 1))) (z_eqB.mp z)) ?_
      refine r_iconst C dX6_ifIll_33 ki_0 ?_
      refine r_goto C 38 dX6_ifIll_34 (by decide) ?_
      refine r_callV (rest := []) C (c_X6_refused (hM := hM) (rf := rf) (x1 := x1) (sz := sz) (x3 := x3) (x4 := x4) (x5 := x5) (ac := ac) (x7 := x7) (x8 := x8) (x9 := x9) (x10 := x10) (x11 := x11) (sp := sp) (ou := ou) (w := 0) (hw := (by omega))) lk_X6_refused w_5_116 [0] rfl dX6_ifIll_38 rfl rfl rfl rfl ⟨by decide, by decide⟩ (Nat.le_of_ble_eq_true rfl) ?_
      rintro _ _ ⟨rfl, rfl⟩
      show ω [(hM, .inr (6, [.int (nI 0), .ref x1, .int (nI sz), .ref x3, .ref x4, .ref x5, .int (nI ac), .ref x7, .ref x8, .ref x9, .ref x10, .ref x11, .int (nI sp), .int (nI ou)])), (x9, .inl (eI E, 6, .inl t1)), (x10, .inl (eI E, 6, .inl t2)), (x11, .inl (eI E, 6, .inl t3)), (x3, .inl (eI E, 255, .inl g)), (x4, .inl (eI E, 255, .inl g4))] [(0, .ref hM), (1, .int (nI a)), (2, .int (nI n)), (3, .int (nI 0))] [.int (bP (0 < 0))] 41
      refine r_if_eqT C (y := 0) 46 dX6_ifIll_41 (by decide) (z_eqB.mpr (by decide)) ?_
      refine r_aload_n C (i := 0) 0 dX6_ifIll_46 rfl rfl ?_
      refine r_get C 0 3 uX6 rfl rfl (by decide) w_5_64 rfl dX6_ifIll_47 ?_
      refine r_iconst C dX6_ifIll_50 ki_0 ?_
      refine r_aload_n C (i := 0) 0 dX6_ifIll_51 rfl rfl ?_
      refine r_get C 0 4 uX6 rfl rfl (by decide) w_5_65 rfl dX6_ifIll_52 ?_
      refine r_iconst C dX6_ifIll_55 ki_0 ?_
      refine r_callS (rest := []) C (c_X6_copyState__255_255 (q2 := x3) (q3 := x4) (fa := 0) (ta := 0) (F := g) (F2 := g4) (hf := (by omega)) (ht := (by omega))) lk_X6_copyState w_5_196 [4, 5] dX6_ifIll_56 rfl rfl rfl ⟨by decide, by decide⟩ (Nat.le_of_ble_eq_true rfl) ?_
      rintro _ _ ⟨rfl, rfl⟩
      show ω [(hM, .inr (6, [.int (nI 0), .ref x1, .int (nI sz), .ref x3, .ref x4, .ref x5, .int (nI ac), .ref x7, .ref x8, .ref x9, .ref x10, .ref x11, .int (nI sp), .int (nI ou)])), (x9, .inl (eI E, 6, .inl t1)), (x10, .inl (eI E, 6, .inl t2)), (x11, .inl (eI E, 6, .inl t3)), (x3, .inl (eI E, 255, .inl g)), (x4, .inl (eI E, 255, .inl (va_cpy g g4 0 0 255)))] [(0, .ref hM), (1, .int (nI a)), (2, .int (nI n)), (3, .int (nI 0))] [] 59
      have hcp3 : RepM σ (va_cpy g g4 0 0 255) := RepM_cp hR hW
      refine r_aload_n C (i := 0) 0 dX6_ifIll_59 rfl rfl ?_
      refine r_get C 0 4 uX6 rfl rfl (by decide) w_5_65 rfl dX6_ifIll_60 ?_
      refine r_iload_n C (i := 1) 1 dX6_ifIll_63 rfl rfl ?_
      refine r_iload_n C (i := 2) 2 dX6_ifIll_64 rfl rfl ?_
      have join82_4 : ∀ (b : Nat), (b = 1 - sI σ a n) → ω [(hM, .inr (6, [.int (nI 0), .ref x1, .int (nI sz), .ref x3, .ref x4, .ref x5, .int (nI ac), .ref x7, .ref x8, .ref x9, .ref x10, .ref x11, .int (nI sp), .int (nI ou)])), (x9, .inl (eI E, 6, .inl t1)), (x10, .inl (eI E, 6, .inl t2)), (x11, .inl (eI E, 6, .inl t3)), (x3, .inl (eI E, 255, .inl g)), (x4, .inl (eI E, 255, .inl (va_cpy g g4 0 0 255)))] [(0, .ref hM), (1, .int (nI a)), (2, .int (nI n)), (3, .int (nI 0))] [.int (nI b), .int (nI n), .int (nI a), .ref x4] 82 := by
        intro b hb
        refine r_callS (rest := []) C (c_X6_illOn (r := x4) (g := va_cpy g g4 0 0 255) (σ := σ) (a := a) (n := n) (b := b) (hR := hcp3) (hW := hW) (ha := (by omega)) (hn := (by omega)) (hb := (by omega))) lk_X6_illOn w_5_172 [5] dX6_ifIll_82 rfl rfl rfl ⟨by decide, by decide⟩ (Nat.le_of_ble_eq_true rfl) ?_
        rintro _ _ ⟨g_5, rfl, rfl, hR_6⟩
        have hW_7 : Wf (oIll σ a n b) := oIll_wf hW (by omega) (by omega)
        show ω [(hM, .inr (6, [.int (nI 0), .ref x1, .int (nI sz), .ref x3, .ref x4, .ref x5, .int (nI ac), .ref x7, .ref x8, .ref x9, .ref x10, .ref x11, .int (nI sp), .int (nI ou)])), (x9, .inl (eI E, 6, .inl t1)), (x10, .inl (eI E, 6, .inl t2)), (x11, .inl (eI E, 6, .inl t3)), (x3, .inl (eI E, 255, .inl g)), (x4, .inl (eI E, 255, .inl g_5))] [(0, .ref hM), (1, .int (nI a)), (2, .int (nI n)), (3, .int (nI 0))] [.int (nI (cntI (oIll σ a n b) a 20))] 85
        refine r_pop C dX6_ifIll_85 rfl ?_
        refine r_iload_n C (i := 3) 3 dX6_ifIll_86 rfl rfl ?_
        refine r_iconst C dX6_ifIll_87 ki_1 ?_
        refine r_icmp_neT C 111 dX6_ifIll_88 (by decide) ((c_neNN (by omega) (by omega)).mpr (by decide)) ?_
        refine r_aload_n C (i := 0) 0 dX6_ifIll_111 rfl rfl ?_
        refine r_aload_n C (i := 0) 0 dX6_ifIll_112 rfl rfl ?_
        refine r_get C 0 3 uX6 rfl rfl (by decide) w_5_64 rfl dX6_ifIll_113 ?_
        refine r_iload_n C (i := 2) 2 dX6_ifIll_116 rfl rfl ?_
        refine r_callV (rest := []) C (c_X6_goThrough (hM := hM) (rf := 0) (x1 := x1) (sz := sz) (x3 := x3) (x4 := x4) (x5 := x5) (ac := ac) (x7 := x7) (x8 := x8) (x9 := x9) (x10 := x10) (x11 := x11) (sp := sp) (ou := ou) (t1 := t1) (t2 := t2) (t3 := t3) (r := x3) (g := g) (σ := σ) (n := n) (hR := hR) (hW := hW) (hn := (by omega))) lk_X6_goThrough w_5_211 [0, 1, 2, 3, 4] rfl dX6_ifIll_117 rfl rfl rfl rfl ⟨by decide, by decide⟩ (Nat.le_of_ble_eq_true rfl) ?_
        rintro _ _ ⟨ta_8, tb_9, tc_10, rfl, rfl, hEv_11⟩
        show ω [(hM, .inr (6, [.int (nI 0), .ref x1, .int (nI sz), .ref x3, .ref x4, .ref x5, .int (nI ac), .ref x7, .ref x8, .ref x9, .ref x10, .ref x11, .int (nI sp), .int (nI ou)])), (x9, .inl (eI E, 6, .inl ta_8)), (x10, .inl (eI E, 6, .inl tb_9)), (x11, .inl (eI E, 6, .inl tc_10)), (x3, .inl (eI E, 255, .inl g)), (x4, .inl (eI E, 255, .inl g_5))] [(0, .ref hM), (1, .int (nI a)), (2, .int (nI n)), (3, .int (nI 0))] [.int (bP (dk σ n = 1))] 120
        refine r_pop C dX6_ifIll_120 rfl ?_
        have hT12 : ∀ p, p < sP σ → ta_8 p = mI (T σ n p) := fun p hp => (hEv_11 p hp).1
        have hl13 : ∀ p, p < sP σ → T σ n p ≤ 10 := fun p hp => Nat.le_trans (T_le hW hp hn) hW.A
        refine r_aload_n C (i := 0) 0 dX6_ifIll_121 rfl rfl ?_
        refine r_readV (rest := []) C (c_X6_row (hM := hM) (rf := 0) (x1 := x1) (sz := sz) (x3 := x3) (x4 := x4) (x5 := x5) (ac := ac) (x7 := x7) (x8 := x8) (x9 := x9) (x10 := x10) (x11 := x11) (sp := sp) (ou := ou) (t1 := ta_8) (g := g) (σ := σ) (sg := σ) (n := n) (hR := hR) (hW := hW) (hT := hT12) (hTl := hl13)) lk_X6_row w_6_125 [0, 1, 4] rfl dX6_ifIll_122 rfl rfl rfl rfl ⟨by decide, by decide⟩ (Nat.le_of_ble_eq_true rfl) (st' := [.long (lN (rwN σ n (sP σ)))]) rfl ?_
        refine r_lstore C (lv' := [(4, .long (lN (rwN σ n (sP σ)))), (0, .ref hM), (1, .int (nI a)), (2, .int (nI n)), (3, .int (nI 0))]) dX6_ifIll_125 (by decide) rfl ?_
        refine r_aload_n C (i := 0) 1 dX6_ifIll_127 rfl rfl ?_
        refine r_aload_n C (i := 0) 1 dX6_ifIll_128 rfl rfl ?_
        refine r_get C 0 4 uX6 rfl rfl (by decide) w_5_65 rfl dX6_ifIll_129 ?_
        refine r_iload_n C (i := 2) 3 dX6_ifIll_132 rfl rfl ?_
        refine r_callV (rest := []) C (c_X6_goThrough (hM := hM) (rf := 0) (x1 := x1) (sz := sz) (x3 := x3) (x4 := x4) (x5 := x5) (ac := ac) (x7 := x7) (x8 := x8) (x9 := x9) (x10 := x10) (x11 := x11) (sp := sp) (ou := ou) (t1 := ta_8) (t2 := tb_9) (t3 := tc_10) (r := x4) (g := g_5) (σ := (oIll σ a n b)) (n := n) (hR := hR_6) (hW := hW_7) (hn := (by omega))) lk_X6_goThrough w_5_211 [0, 1, 2, 3, 5] rfl dX6_ifIll_133 rfl rfl rfl rfl ⟨by decide, by decide⟩ (Nat.le_of_ble_eq_true rfl) ?_
        rintro _ _ ⟨ta_14, tb_15, tc_16, rfl, rfl, hEv_17⟩
        show ω [(hM, .inr (6, [.int (nI 0), .ref x1, .int (nI sz), .ref x3, .ref x4, .ref x5, .int (nI ac), .ref x7, .ref x8, .ref x9, .ref x10, .ref x11, .int (nI sp), .int (nI ou)])), (x9, .inl (eI E, 6, .inl ta_14)), (x10, .inl (eI E, 6, .inl tb_15)), (x11, .inl (eI E, 6, .inl tc_16)), (x3, .inl (eI E, 255, .inl g)), (x4, .inl (eI E, 255, .inl g_5))] [(4, .long (lN (rwN σ n (sP σ)))), (0, .ref hM), (1, .int (nI a)), (2, .int (nI n)), (3, .int (nI 0))] [.int (bP (dk (oIll σ a n b) n = 1))] 136
        refine r_pop C dX6_ifIll_136 rfl ?_
        have hT18 : ∀ p, p < sP σ → ta_14 p = mI (T (oIll σ a n b) n p) := fun p hp => (hEv_17 p hp).1
        have hl19 : ∀ p, p < sP σ → T (oIll σ a n b) n p ≤ 10 := fun p hp => Nat.le_trans (T_le hW_7 hp hn) hW_7.A
        refine r_aload_n C (i := 0) 1 dX6_ifIll_137 rfl rfl ?_
        refine r_readV (rest := []) C (c_X6_row (hM := hM) (rf := 0) (x1 := x1) (sz := sz) (x3 := x3) (x4 := x4) (x5 := x5) (ac := ac) (x7 := x7) (x8 := x8) (x9 := x9) (x10 := x10) (x11 := x11) (sp := sp) (ou := ou) (t1 := ta_14) (g := g) (σ := σ) (sg := (oIll σ a n b)) (n := n) (hR := hR) (hW := hW) (hT := hT18) (hTl := hl19)) lk_X6_row w_6_125 [0, 1, 4] rfl dX6_ifIll_138 rfl rfl rfl rfl ⟨by decide, by decide⟩ (Nat.le_of_ble_eq_true rfl) (st' := [.long (lN (rwN (oIll σ a n b) n (sP σ)))]) rfl ?_
        refine r_lstore C (lv' := [(6, .long (lN (rwN (oIll σ a n b) n (sP σ)))), (4, .long (lN (rwN σ n (sP σ)))), (0, .ref hM), (1, .int (nI a)), (2, .int (nI n)), (3, .int (nI 0))]) dX6_ifIll_141 (by decide) rfl ?_
        have hWi : Wf (oIll σ a n b) := hW_7
        refine r_iconst C dX6_ifIll_143 ki_0 ?_
        refine r_istore C (lv' := [(8, .int (nI 0)), (6, .long (lN (rwN (oIll σ a n b) n (sP σ)))), (4, .long (lN (rwN σ n (sP σ)))), (0, .ref hM), (1, .int (nI a)), (2, .int (nI n)), (3, .int (nI 0))]) dX6_ifIll_144 (by decide) rfl ?_
        refine r_aload_n C (i := 0) 3 dX6_ifIll_146 rfl rfl ?_
        refine r_get C 0 3 uX6 rfl rfl (by decide) w_5_64 rfl dX6_ifIll_147 ?_
        refine r_iconst C dX6_ifIll_150 ki_0 ?_
        refine r_iald (j := 0) (v := nI (sP σ)) C 4 rfl (by omega) (by decide) hR.P dX6_ifIll_151 ?_
        refine r_iconst C dX6_ifIll_152 ki_1 ?_
        refine r_isub (v := mI (sP σ)) C dX6_ifIll_153 (v_subM _) ?_
        refine r_istore C (lv' := [(9, .int (mI (sP σ))), (8, .int (nI 0)), (6, .long (lN (rwN (oIll σ a n b) n (sP σ)))), (4, .long (lN (rwN σ n (sP σ)))), (0, .ref hM), (1, .int (nI a)), (2, .int (nI n)), (3, .int (nI 0))]) dX6_ifIll_154 (by decide) rfl ?_
        have loop156_20 : ∀ (dd9 : Nat) (q : Nat) (se : Nat) (v1 : Nat) (v2 : Nat), q < dd9 → (q ≤ sP σ) → (se + bm (fun p => if T σ n p = T (oIll σ a n b) n p then 0 else 1) q = chg σ (oIll σ a n b) n) → (∃ m, se = 2 ^ q * m) → (v1 = rwN σ n q) → (v2 = rwN (oIll σ a n b) n q) → ω [(hM, .inr (6, [.int (nI 0), .ref x1, .int (nI sz), .ref x3, .ref x4, .ref x5, .int (nI ac), .ref x7, .ref x8, .ref x9, .ref x10, .ref x11, .int (nI sp), .int (nI ou)])), (x9, .inl (eI E, 6, .inl ta_14)), (x10, .inl (eI E, 6, .inl tb_15)), (x11, .inl (eI E, 6, .inl tc_16)), (x3, .inl (eI E, 255, .inl g)), (x4, .inl (eI E, 255, .inl g_5))] [(9, .int (mI q)), (8, .int (nI se)), (6, .long (lN v2)), (4, .long (lN v1)), (0, .ref hM), (1, .int (nI a)), (2, .int (nI n)), (3, .int (nI 0))] [] 156 := by
          intro dd9
          induction dd9 with
          | zero => intro q se v1 v2 hd; exact absurd hd (Nat.not_lt_zero _)
          | succ dd9 ih21 =>
            intro q se v1 v2 hd hq hse hmul hv1 hv2
            refine r_iload C (i := 9) 0 dX6_ifIll_156 rfl ?_
            refine r_if_lt C (y := 0) (c9 := q = 0) 212 dX6_ifIll_158 (by decide) (z_ltM (by omega)) (fun h158_22 => ?_) (fun h158_22 => ?_)
            · refine r_iload C (i := 8) 1 dX6_ifIll_212 rfl ?_
              exact RT.1 _ _ _ _ _ dX6_ifIll_214 rfl rfl (⟨_, _, _, _, sv (congrArg nI (by rw [show chg σ (oFl σ a n) n = chg σ (oIll σ a n b) n from by rw [hb]; rfl, ← hse, (by omega : q = 0)]; rfl)), rfl⟩) rfl
            · obtain ⟨q1, rfl⟩ : ∃ q1, q = q1 + 1 := ⟨q - 1, by omega⟩
              refine r_lo (lv' := [(9, .int (nI q1)), (8, .int (nI se)), (6, .long (lN v2)), (4, .long (lN v1)), (0, .ref hM), (1, .int (nI a)), (2, .int (nI n)), (3, .int (nI 0))]) (by rw [mI_s]) ?_
              have hx1 := rwN_lt hW hn (show q1 + 1 ≤ sP σ by omega)
              have hx2 := rwN_lt hWi hn (show q1 + 1 ≤ sP σ by omega)
              have hx3 : 11 ^ (q1 + 1) ≤ 11 ^ 6 := Nat.pow_le_pow_right (by decide) (by omega)
              have hm1 := rwN_mod hW hn (show q1 < sP σ by omega)
              have hm2 := rwN_mod hWi hn (show q1 < sP σ by omega)
              refine r_iload C (i := 8) 1 dX6_ifIll_161 rfl ?_
              refine r_lload C (i := 4) 3 dX6_ifIll_163 rfl ?_
              refine r_ldc2 (v := lN 11) C dX6_ifIll_165 w_6_129 ?_
              refine r_lrem (v := lN (v1 % 11)) C dX6_ifIll_168 (l_nz (by omega) (by omega)) (pk_lRem (by omega) (by omega) (by omega)) ?_
              refine r_lload C (i := 6) 2 dX6_ifIll_169 rfl ?_
              refine r_ldc2 (v := lN 11) C dX6_ifIll_171 w_6_129 ?_
              refine r_lrem (v := lN (v2 % 11)) C dX6_ifIll_174 (l_nz (by omega) (by omega)) (pk_lRem (by omega) (by omega) (by omega)) ?_
              refine r_lcmp C dX6_ifIll_175 rfl ?_
              refine r_if_ne C (y := 0) (c9 := ¬ (v1 % 11 = v2 % 11)) 183 dX6_ifIll_176 (by decide) (not_congr ((lg_cmp_eq _ _).trans (lN_eq (by omega) (by omega)))) (fun h176_23 => ?_) (fun h176_23 => ?_)
              · refine r_iconst C dX6_ifIll_183 ki_1 ?_
                refine r_iload C (i := 9) 0 dX6_ifIll_184 rfl ?_
                refine r_ishl (v := nI (2 ^ q1)) C dX6_ifIll_186 (v_shl (by omega)) ?_
                refine r_ior (v := nI (se + 2 ^ q1)) C dX6_ifIll_187 ((v_or _ _).trans (congrArg nI (by obtain ⟨m, hm⟩ := hmul; rw [hm, tp_add]))) ?_
                refine r_istore C (lv' := [(8, .int (nI (se + 2 ^ q1))), (9, .int (nI q1)), (6, .long (lN v2)), (4, .long (lN v1)), (0, .ref hM), (1, .int (nI a)), (2, .int (nI n)), (3, .int (nI 0))]) dX6_ifIll_188 (by decide) rfl ?_
                refine r_lload C (i := 4) 3 dX6_ifIll_190 rfl ?_
                refine r_ldc2 (v := lN 11) C dX6_ifIll_192 w_6_129 ?_
                refine r_ldiv (v := lN (v1 / 11)) C dX6_ifIll_195 (l_nz (by omega) (by omega)) (pk_lDiv (by omega) (by omega) (by omega)) ?_
                refine r_lstore C (lv' := [(4, .long (lN (v1 / 11))), (8, .int (nI (se + 2 ^ q1))), (9, .int (nI q1)), (6, .long (lN v2)), (0, .ref hM), (1, .int (nI a)), (2, .int (nI n)), (3, .int (nI 0))]) dX6_ifIll_196 (by decide) rfl ?_
                refine r_lload C (i := 6) 3 dX6_ifIll_198 rfl ?_
                refine r_ldc2 (v := lN 11) C dX6_ifIll_200 w_6_129 ?_
                refine r_ldiv (v := lN (v2 / 11)) C dX6_ifIll_203 (l_nz (by omega) (by omega)) (pk_lDiv (by omega) (by omega) (by omega)) ?_
                refine r_lstore C (lv' := [(6, .long (lN (v2 / 11))), (4, .long (lN (v1 / 11))), (8, .int (nI (se + 2 ^ q1))), (9, .int (nI q1)), (0, .ref hM), (1, .int (nI a)), (2, .int (nI n)), (3, .int (nI 0))]) dX6_ifIll_204 (by decide) rfl ?_
                refine r_iinc C (lv' := [(9, .int (mI q1)), (6, .long (lN (v2 / 11))), (4, .long (lN (v1 / 11))), (8, .int (nI (se + 2 ^ q1))), (0, .ref hM), (1, .int (nI a)), (2, .int (nI n)), (3, .int (nI 0))]) (v := mI q1) 3 dX6_ifIll_206 rfl (v_decM _) (by decide) rfl ?_
                refine r_goto C 156 dX6_ifIll_209 (by decide) ?_
                refine r_lv (lv' := [(9, .int (mI q1)), (8, .int (nI (se + 2 ^ q1))), (6, .long (lN (v2 / 11))), (4, .long (lN (v1 / 11))), (0, .ref hM), (1, .int (nI a)), (2, .int (nI n)), (3, .int (nI 0))]) C [0, 3, 1, 2, 4, 5, 6, 7] rfl ?_
                exact ih21 q1 (se + 2 ^ q1) (v1 / 11) (v2 / 11) (by omega) (by omega) (by rw [← hse, bm, if_neg (by omega)]; omega) (by obtain ⟨m, hm⟩ := hmul; exact ⟨2 * m + 1, by rw [hm, Nat.pow_succ]; rw [Nat.mul_add, Nat.mul_one, Nat.mul_assoc]⟩) (by rw [hv1]; exact rwN_div hW hn (by omega)) (by rw [hv2]; exact rwN_div hWi hn (show q1 < sP σ by omega))
              · replace h176_23 : v1 % 11 = v2 % 11 := Decidable.not_not.mp h176_23
                refine r_iconst C dX6_ifIll_179 ki_0 ?_
                refine r_goto C 187 dX6_ifIll_180 (by decide) ?_
                refine r_ior (v := nI se) C dX6_ifIll_187 ((v_or _ _).trans (congrArg nI (Nat.or_zero _))) ?_
                refine r_istore C (lv' := [(8, .int (nI se)), (9, .int (nI q1)), (6, .long (lN v2)), (4, .long (lN v1)), (0, .ref hM), (1, .int (nI a)), (2, .int (nI n)), (3, .int (nI 0))]) dX6_ifIll_188 (by decide) rfl ?_
                refine r_lload C (i := 4) 3 dX6_ifIll_190 rfl ?_
                refine r_ldc2 (v := lN 11) C dX6_ifIll_192 w_6_129 ?_
                refine r_ldiv (v := lN (v1 / 11)) C dX6_ifIll_195 (l_nz (by omega) (by omega)) (pk_lDiv (by omega) (by omega) (by omega)) ?_
                refine r_lstore C (lv' := [(4, .long (lN (v1 / 11))), (8, .int (nI se)), (9, .int (nI q1)), (6, .long (lN v2)), (0, .ref hM), (1, .int (nI a)), (2, .int (nI n)), (3, .int (nI 0))]) dX6_ifIll_196 (by decide) rfl ?_
                refine r_lload C (i := 6) 3 dX6_ifIll_198 rfl ?_
                refine r_ldc2 (v := lN 11) C dX6_ifIll_200 w_6_129 ?_
                refine r_ldiv (v := lN (v2 / 11)) C dX6_ifIll_203 (l_nz (by omega) (by omega)) (pk_lDiv (by omega) (by omega) (by omega)) ?_
                refine r_lstore C (lv' := [(6, .long (lN (v2 / 11))), (4, .long (lN (v1 / 11))), (8, .int (nI se)), (9, .int (nI q1)), (0, .ref hM), (1, .int (nI a)), (2, .int (nI n)), (3, .int (nI 0))]) dX6_ifIll_204 (by decide) rfl ?_
                refine r_iinc C (lv' := [(9, .int (mI q1)), (6, .long (lN (v2 / 11))), (4, .long (lN (v1 / 11))), (8, .int (nI se)), (0, .ref hM), (1, .int (nI a)), (2, .int (nI n)), (3, .int (nI 0))]) (v := mI q1) 3 dX6_ifIll_206 rfl (v_decM _) (by decide) rfl ?_
                refine r_goto C 156 dX6_ifIll_209 (by decide) ?_
                refine r_lv (lv' := [(9, .int (mI q1)), (8, .int (nI se)), (6, .long (lN (v2 / 11))), (4, .long (lN (v1 / 11))), (0, .ref hM), (1, .int (nI a)), (2, .int (nI n)), (3, .int (nI 0))]) C [0, 3, 1, 2, 4, 5, 6, 7] rfl ?_
                exact ih21 q1 se (v1 / 11) (v2 / 11) (by omega) (by omega) (by rw [← hse, bm, if_pos (by omega)]; omega) (by obtain ⟨m, hm⟩ := hmul; exact ⟨2 * m, by rw [hm, Nat.pow_succ]; rw [Nat.mul_assoc]⟩) (by rw [hv1]; exact rwN_div hW hn (by omega)) (by rw [hv2]; exact rwN_div hWi hn (show q1 < sP σ by omega))
        exact loop156_20 _ (sP σ) 0 (rwN σ n (sP σ)) (rwN (oIll σ a n b) n (sP σ)) (Nat.lt_succ_self _) (by omega) (Nat.zero_add _) (⟨0, rfl⟩) rfl rfl
      refine r_aload_n C (i := 0) 0 dX6_ifIll_65 rfl rfl ?_
      refine r_get C 0 3 uX6 rfl rfl (by decide) w_5_64 rfl dX6_ifIll_66 ?_
      refine r_iload_n C (i := 1) 1 dX6_ifIll_69 rfl rfl ?_
      refine r_iload_n C (i := 2) 2 dX6_ifIll_70 rfl rfl ?_
      refine r_readS (rest := [.int (nI n), .int (nI a), .ref x4]) C (c_X6_isIll (r := x3) (g := g) (σ := σ) (a := a) (n := n) (hR := hR) (hW := hW) (ha := (by omega)) (hn := (by omega))) lk_X6_isIll w_5_221 [4] dX6_ifIll_71 rfl rfl rfl ⟨by decide, by decide⟩ (Nat.le_of_ble_eq_true rfl) (st' := [.int (bP (sI σ a n = 1)), .int (nI n), .int (nI a), .ref x4]) rfl ?_
      refine r_if_ne C (y := 0) (c9 := sI σ a n = 1) 81 dX6_ifIll_74 (by decide) z_neB (fun h74_24 => ?_) (fun h74_24 => ?_)
      · refine r_iconst C dX6_ifIll_81 ki_0 ?_
        exact join82_4 0 (by omega)
      · refine r_iconst C dX6_ifIll_77 ki_1 ?_
        refine r_goto C 82 dX6_ifIll_78 (by decide) ?_
        exact join82_4 1 (by omega)
    · refine r_iconst C dX6_ifIll_19 ki_1 ?_
      refine r_goto C 38 dX6_ifIll_20 (by decide) ?_
      first | (exfalso; omega) | (exfalso; simp_all; done)
set_option maxRecDepth 100000 in
set_option maxHeartbeats 1000000 in
theorem c_X6_ifIll__x1 {l : Launch} {E : Ev} {hM rf x1 sz x3 x4 x5 ac x7 x8 x9 x10 x11 sp ou : Nat} {g : Nat → Int32} {σ : Sg} (hR : RepM σ g) (hW : Wf σ) {a n w : Int32} (hx : ¬ (vI a (sA σ) ∧ vI n 20)) : Ct l E yX6_ifIll cX6_ifIll 10 (some FieldType.int) 5 123 [.ref hM, .int a, .int n, .int w] [(hM, .inr (6, [.int (nI rf), .ref x1, .int (nI sz), .ref x3, .ref x4, .ref x5, .int (nI ac), .ref x7, .ref x8, .ref x9, .ref x10, .ref x11, .int (nI sp), .int (nI ou)])), (x3, .inl (eI E, 255, .inl g))] (fun v9 w9 => v9 = some (.int (nI 0)) ∧ w9 = [(hM, .inr (6, [.int (nI 1), .ref x1, .int (nI sz), .ref x3, .ref x4, .ref x5, .int (nI ac), .ref x7, .ref x8, .ref x9, .ref x10, .ref x11, .int (nI sp), .int (nI ou)])), (x3, .inl (eI E, 255, .inl g))]) := by
  have hwP := hW.P
  have hwA := hW.A
  have hwS := hW.S
  refine ct_of (by decide +kernel) (Nat.le_of_ble_eq_true rfl) (fun ω C RT => ?_)
  show ω [(hM, .inr (6, [.int (nI rf), .ref x1, .int (nI sz), .ref x3, .ref x4, .ref x5, .int (nI ac), .ref x7, .ref x8, .ref x9, .ref x10, .ref x11, .int (nI sp), .int (nI ou)])), (x3, .inl (eI E, 255, .inl g))] [(0, .ref hM), (1, .int a), (2, .int n), (3, .int w)] [] 0
  refine r_aload_n C (i := 0) 0 dX6_ifIll_0 rfl rfl ?_
  refine r_aload_n C (i := 0) 0 dX6_ifIll_1 rfl rfl ?_
  refine r_get C 0 3 uX6 rfl rfl (by decide) w_5_64 rfl dX6_ifIll_2 ?_
  refine r_iload_n C (i := 1) 1 dX6_ifIll_5 rfl rfl ?_
  refine r_readS (rest := [.ref hM]) C (c_X6_isActor__r (r := x3) (g := g) (σ := σ) (x := a) (hR := hR) (hW := hW)) lk_X6_isActor w_5_154 [1] dX6_ifIll_6 rfl rfl rfl ⟨by decide, by decide⟩ (Nat.le_of_ble_eq_true rfl) (st' := [.int (bP (vI a (sA σ))), .ref hM]) rfl ?_
  refine r_if_eq C (y := 0) (c9 := ¬ (vI a (sA σ))) 19 dX6_ifIll_9 (by decide) z_eqB (fun h9_1 => ?_) (fun h9_1 => ?_)
  · refine r_iconst C dX6_ifIll_19 ki_1 ?_
    refine r_goto C 38 dX6_ifIll_20 (by decide) ?_
    refine r_callV (rest := []) C (c_X6_refused (hM := hM) (rf := rf) (x1 := x1) (sz := sz) (x3 := x3) (x4 := x4) (x5 := x5) (ac := ac) (x7 := x7) (x8 := x8) (x9 := x9) (x10 := x10) (x11 := x11) (sp := sp) (ou := ou) (w := 1) (hw := (by omega))) lk_X6_refused w_5_116 [0] rfl dX6_ifIll_38 rfl rfl rfl rfl ⟨by decide, by decide⟩ (Nat.le_of_ble_eq_true rfl) ?_
    rintro _ _ ⟨rfl, rfl⟩
    show ω [(hM, .inr (6, [.int (nI 1), .ref x1, .int (nI sz), .ref x3, .ref x4, .ref x5, .int (nI ac), .ref x7, .ref x8, .ref x9, .ref x10, .ref x11, .int (nI sp), .int (nI ou)])), (x3, .inl (eI E, 255, .inl g))] [(0, .ref hM), (1, .int a), (2, .int n), (3, .int w)] [.int (bP (0 < 1))] 41
    refine r_if_eqF C (y := 0) (tgt := 46) dX6_ifIll_41 (by decide) (fun z => ((by decide) : ¬ (¬ (0 < 1))) (z_eqB.mp z)) ?_
    refine r_iconst C dX6_ifIll_44 ki_0 ?_
    exact RT.1 _ _ _ _ _ dX6_ifIll_45 rfl rfl (⟨rfl, rfl⟩) rfl
  · replace h9_1 : vI a (sA σ) := Decidable.not_not.mp h9_1
    refine r_iload_n C (i := 2) 2 dX6_ifIll_12 rfl rfl ?_
    refine r_readS (rest := [.ref hM]) C (c_X6_isNight__r (x := n) ) lk_X6_isNight w_5_185 [] dX6_ifIll_13 rfl rfl rfl ⟨by decide, by decide⟩ (Nat.le_of_ble_eq_true rfl) (st' := [.int (bP (vI n 20)), .ref hM]) rfl ?_
    refine r_if_ne C (y := 0) (c9 := vI n 20) 23 dX6_ifIll_16 (by decide) z_neB (fun h16_2 => ?_) (fun h16_2 => ?_)
    · refine r_iload_n C (i := 3) 3 dX6_ifIll_23 rfl rfl ?_
      refine r_i2l (v := (w).toInt64) C dX6_ifIll_24 rfl ?_
      refine r_lconst (v := lN 0) C dX6_ifIll_25 (by decide +kernel) ?_
      refine r_lconst (v := lN 1) C dX6_ifIll_26 (by decide +kernel) ?_
      refine r_readS (rest := [.ref hM]) C (c_X6_in (v := (w).toInt64) (lw := lN 0) (hg := lN 1)) lk_X6_in w_5_113 [] dX6_ifIll_27 rfl rfl rfl ⟨by decide, by decide⟩ (Nat.le_of_ble_eq_true rfl) (st' := [.int (bP (lN 0 ≤ (w).toInt64 ∧ (w).toInt64 ≤ lN 1)), .ref hM]) rfl ?_
      refine r_st (st' := [.int (bP (vI w (2))), .ref hM]) (by rw [bP_c (in_r (by omega))]) ?_
      refine r_if_eq C (y := 0) (c9 := ¬ (vI w (2))) 37 dX6_ifIll_30 (by decide) z_eqB (fun h30_3 => ?_) (fun h30_3 => ?_)
      · refine r_iconst C dX6_ifIll_37 ki_2 ?_
        first | (exfalso; omega) | (exfalso; simp_all; done)
      · replace h30_3 : vI w (2) := Decidable.not_not.mp h30_3
        refine r_iconst C dX6_ifIll_33 ki_0 ?_
        refine r_goto C 38 dX6_ifIll_34 (by decide) ?_
        first | (exfalso; omega) | (exfalso; simp_all; done)
    · refine r_iconst C dX6_ifIll_19 ki_1 ?_
      refine r_goto C 38 dX6_ifIll_20 (by decide) ?_
      refine r_callV (rest := []) C (c_X6_refused (hM := hM) (rf := rf) (x1 := x1) (sz := sz) (x3 := x3) (x4 := x4) (x5 := x5) (ac := ac) (x7 := x7) (x8 := x8) (x9 := x9) (x10 := x10) (x11 := x11) (sp := sp) (ou := ou) (w := 1) (hw := (by omega))) lk_X6_refused w_5_116 [0] rfl dX6_ifIll_38 rfl rfl rfl rfl ⟨by decide, by decide⟩ (Nat.le_of_ble_eq_true rfl) ?_
      rintro _ _ ⟨rfl, rfl⟩
      show ω [(hM, .inr (6, [.int (nI 1), .ref x1, .int (nI sz), .ref x3, .ref x4, .ref x5, .int (nI ac), .ref x7, .ref x8, .ref x9, .ref x10, .ref x11, .int (nI sp), .int (nI ou)])), (x3, .inl (eI E, 255, .inl g))] [(0, .ref hM), (1, .int a), (2, .int n), (3, .int w)] [.int (bP (0 < 1))] 41
      refine r_if_eqF C (y := 0) (tgt := 46) dX6_ifIll_41 (by decide) (fun z => ((by decide) : ¬ (¬ (0 < 1))) (z_eqB.mp z)) ?_
      refine r_iconst C dX6_ifIll_44 ki_0 ?_
      exact RT.1 _ _ _ _ _ dX6_ifIll_45 rfl rfl (⟨rfl, rfl⟩) rfl
set_option maxRecDepth 100000 in
set_option maxHeartbeats 1000000 in
theorem c_X6_ifIll__x2 {l : Launch} {E : Ev} {hM rf x1 sz x3 x4 x5 ac x7 x8 x9 x10 x11 sp ou : Nat} {g : Nat → Int32} {σ : Sg} (hR : RepM σ g) (hW : Wf σ) {a n : Nat} {w : Int32} (ha : a < sA σ) (hn : n < 20) (hx : ¬ vI w 2) : Ct l E yX6_ifIll cX6_ifIll 10 (some FieldType.int) 5 123 [.ref hM, .int (nI a), .int (nI n), .int w] [(hM, .inr (6, [.int (nI rf), .ref x1, .int (nI sz), .ref x3, .ref x4, .ref x5, .int (nI ac), .ref x7, .ref x8, .ref x9, .ref x10, .ref x11, .int (nI sp), .int (nI ou)])), (x3, .inl (eI E, 255, .inl g))] (fun v9 w9 => v9 = some (.int (nI 0)) ∧ w9 = [(hM, .inr (6, [.int (nI 2), .ref x1, .int (nI sz), .ref x3, .ref x4, .ref x5, .int (nI ac), .ref x7, .ref x8, .ref x9, .ref x10, .ref x11, .int (nI sp), .int (nI ou)])), (x3, .inl (eI E, 255, .inl g))]) := by
  have hwP := hW.P
  have hwA := hW.A
  have hwS := hW.S
  refine ct_of (by decide +kernel) (Nat.le_of_ble_eq_true rfl) (fun ω C RT => ?_)
  show ω [(hM, .inr (6, [.int (nI rf), .ref x1, .int (nI sz), .ref x3, .ref x4, .ref x5, .int (nI ac), .ref x7, .ref x8, .ref x9, .ref x10, .ref x11, .int (nI sp), .int (nI ou)])), (x3, .inl (eI E, 255, .inl g))] [(0, .ref hM), (1, .int (nI a)), (2, .int (nI n)), (3, .int w)] [] 0
  refine r_aload_n C (i := 0) 0 dX6_ifIll_0 rfl rfl ?_
  refine r_aload_n C (i := 0) 0 dX6_ifIll_1 rfl rfl ?_
  refine r_get C 0 3 uX6 rfl rfl (by decide) w_5_64 rfl dX6_ifIll_2 ?_
  refine r_iload_n C (i := 1) 1 dX6_ifIll_5 rfl rfl ?_
  refine r_readS (rest := [.ref hM]) C (c_X6_isActor (r := x3) (g := g) (σ := σ) (i := a) (hR := hR) (hW := hW) (hi := (by omega))) lk_X6_isActor w_5_154 [1] dX6_ifIll_6 rfl rfl rfl ⟨by decide, by decide⟩ (Nat.le_of_ble_eq_true rfl) (st' := [.int (bP (a < sA σ)), .ref hM]) rfl ?_
  refine r_if_eq C (y := 0) (c9 := ¬ (a < sA σ)) 19 dX6_ifIll_9 (by decide) z_eqB (fun h9_1 => ?_) (fun h9_1 => ?_)
  · refine r_iconst C dX6_ifIll_19 ki_1 ?_
    refine r_goto C 38 dX6_ifIll_20 (by decide) ?_
    first | (exfalso; omega) | (exfalso; simp_all; done)
  · replace h9_1 : a < sA σ := Decidable.not_not.mp h9_1
    refine r_iload_n C (i := 2) 2 dX6_ifIll_12 rfl rfl ?_
    refine r_readS (rest := [.ref hM]) C (c_X6_isNight (i := n) (hi := (by omega))) lk_X6_isNight w_5_185 [] dX6_ifIll_13 rfl rfl rfl ⟨by decide, by decide⟩ (Nat.le_of_ble_eq_true rfl) (st' := [.int (bP (n ≤ 19)), .ref hM]) rfl ?_
    refine r_if_ne C (y := 0) (c9 := n ≤ 19) 23 dX6_ifIll_16 (by decide) z_neB (fun h16_2 => ?_) (fun h16_2 => ?_)
    · refine r_iload_n C (i := 3) 3 dX6_ifIll_23 rfl rfl ?_
      refine r_i2l (v := (w).toInt64) C dX6_ifIll_24 rfl ?_
      refine r_lconst (v := lN 0) C dX6_ifIll_25 (by decide +kernel) ?_
      refine r_lconst (v := lN 1) C dX6_ifIll_26 (by decide +kernel) ?_
      refine r_readS (rest := [.ref hM]) C (c_X6_in (v := (w).toInt64) (lw := lN 0) (hg := lN 1)) lk_X6_in w_5_113 [] dX6_ifIll_27 rfl rfl rfl ⟨by decide, by decide⟩ (Nat.le_of_ble_eq_true rfl) (st' := [.int (bP (lN 0 ≤ (w).toInt64 ∧ (w).toInt64 ≤ lN 1)), .ref hM]) rfl ?_
      refine r_st (st' := [.int (bP (vI w (2))), .ref hM]) (by rw [bP_c (in_r (by omega))]) ?_
      refine r_if_eq C (y := 0) (c9 := ¬ (vI w (2))) 37 dX6_ifIll_30 (by decide) z_eqB (fun h30_3 => ?_) (fun h30_3 => ?_)
      · refine r_iconst C dX6_ifIll_37 ki_2 ?_
        refine r_callV (rest := []) C (c_X6_refused (hM := hM) (rf := rf) (x1 := x1) (sz := sz) (x3 := x3) (x4 := x4) (x5 := x5) (ac := ac) (x7 := x7) (x8 := x8) (x9 := x9) (x10 := x10) (x11 := x11) (sp := sp) (ou := ou) (w := 2) (hw := (by omega))) lk_X6_refused w_5_116 [0] rfl dX6_ifIll_38 rfl rfl rfl rfl ⟨by decide, by decide⟩ (Nat.le_of_ble_eq_true rfl) ?_
        rintro _ _ ⟨rfl, rfl⟩
        show ω [(hM, .inr (6, [.int (nI 2), .ref x1, .int (nI sz), .ref x3, .ref x4, .ref x5, .int (nI ac), .ref x7, .ref x8, .ref x9, .ref x10, .ref x11, .int (nI sp), .int (nI ou)])), (x3, .inl (eI E, 255, .inl g))] [(0, .ref hM), (1, .int (nI a)), (2, .int (nI n)), (3, .int w)] [.int (bP (0 < 2))] 41
        refine r_if_eqF C (y := 0) (tgt := 46) dX6_ifIll_41 (by decide) (fun z => ((by decide) : ¬ (¬ (0 < 2))) (z_eqB.mp z)) ?_
        refine r_iconst C dX6_ifIll_44 ki_0 ?_
        exact RT.1 _ _ _ _ _ dX6_ifIll_45 rfl rfl (⟨rfl, rfl⟩) rfl
      · replace h30_3 : vI w (2) := Decidable.not_not.mp h30_3
        refine r_iconst C dX6_ifIll_33 ki_0 ?_
        refine r_goto C 38 dX6_ifIll_34 (by decide) ?_
        first | (exfalso; omega) | (exfalso; simp_all; done)
    · refine r_iconst C dX6_ifIll_19 ki_1 ?_
      refine r_goto C 38 dX6_ifIll_20 (by decide) ?_
      first | (exfalso; omega) | (exfalso; simp_all; done)
set_option maxRecDepth 100000 in
set_option maxHeartbeats 1000000 in
theorem c_X6_bestUnderstudy {l : Launch} {E : Ev} {hM rf x1 sz x3 x4 x5 ac x7 x8 x9 x10 x11 sp ou : Nat} {t1 t2 t3 : Nat → Int32} {g4 : Nat → Int32} {g : Nat → Int32} {σ : Sg} (hR : RepM σ g) (hW : Wf σ) {p : Nat} (hp : p < sP σ) : Ct l E yX6_bestUnderstudy cX6_bestUnderstudy 9 (some FieldType.int) 6 146 [.ref hM, .int (nI p)] [(hM, .inr (6, [.int (nI rf), .ref x1, .int (nI sz), .ref x3, .ref x4, .ref x5, .int (nI ac), .ref x7, .ref x8, .ref x9, .ref x10, .ref x11, .int (nI sp), .int (nI ou)])), (x9, .inl (eI E, 6, .inl t1)), (x10, .inl (eI E, 6, .inl t2)), (x11, .inl (eI E, 6, .inl t3)), (x3, .inl (eI E, 255, .inl g)), (x4, .inl (eI E, 255, .inl g4))] (fun v9 w9 => ∃ ta tb tc td : Nat → Int32, v9 = some (.int (mI ((bu σ p (sA σ)).1))) ∧ w9 = [(hM, .inr (6, [.int (nI 0), .ref x1, .int (nI sz), .ref x3, .ref x4, .ref x5, .int (nI ac), .ref x7, .ref x8, .ref x9, .ref x10, .ref x11, .int (nI sp), .int (nI ou)])), (x9, .inl (eI E, 6, .inl ta)), (x10, .inl (eI E, 6, .inl tb)), (x11, .inl (eI E, 6, .inl tc)), (x3, .inl (eI E, 255, .inl g)), (x4, .inl (eI E, 255, .inl td))]) := by
  have hwP := hW.P
  have hwA := hW.A
  have hwS := hW.S
  refine ct_of (by decide +kernel) (Nat.le_of_ble_eq_true rfl) (fun ω C RT => ?_)
  show ω [(hM, .inr (6, [.int (nI rf), .ref x1, .int (nI sz), .ref x3, .ref x4, .ref x5, .int (nI ac), .ref x7, .ref x8, .ref x9, .ref x10, .ref x11, .int (nI sp), .int (nI ou)])), (x9, .inl (eI E, 6, .inl t1)), (x10, .inl (eI E, 6, .inl t2)), (x11, .inl (eI E, 6, .inl t3)), (x3, .inl (eI E, 255, .inl g)), (x4, .inl (eI E, 255, .inl g4))] [(0, .ref hM), (1, .int (nI p))] [] 0
  refine r_aload_n C (i := 0) 0 dX6_bestUnderstudy_0 rfl rfl ?_
  refine r_aload_n C (i := 0) 0 dX6_bestUnderstudy_1 rfl rfl ?_
  refine r_get C 0 3 uX6 rfl rfl (by decide) w_5_64 rfl dX6_bestUnderstudy_2 ?_
  refine r_iload_n C (i := 1) 1 dX6_bestUnderstudy_5 rfl rfl ?_
  refine r_readS (rest := [.ref hM]) C (c_X6_isPart (r := x3) (g := g) (σ := σ) (i := p) (hR := hR) (hW := hW) (hi := (by omega))) lk_X6_isPart w_5_151 [4] dX6_bestUnderstudy_6 rfl rfl rfl ⟨by decide, by decide⟩ (Nat.le_of_ble_eq_true rfl) (st' := [.int (bP (p < sP σ)), .ref hM]) rfl ?_
  refine r_if_eq C (y := 0) (c9 := ¬ (p < sP σ)) 16 dX6_bestUnderstudy_9 (by decide) z_eqB (fun h9_1 => ?_) (fun h9_1 => ?_)
  · refine r_iconst C dX6_bestUnderstudy_16 ki_1 ?_
    first | (exfalso; omega) | (exfalso; simp_all; done)
  · replace h9_1 : p < sP σ := Decidable.not_not.mp h9_1
    refine r_iconst C dX6_bestUnderstudy_12 ki_0 ?_
    refine r_goto C 17 dX6_bestUnderstudy_13 (by decide) ?_
    refine r_callV (rest := []) C (c_X6_refused (hM := hM) (rf := rf) (x1 := x1) (sz := sz) (x3 := x3) (x4 := x4) (x5 := x5) (ac := ac) (x7 := x7) (x8 := x8) (x9 := x9) (x10 := x10) (x11 := x11) (sp := sp) (ou := ou) (w := 0) (hw := (by omega))) lk_X6_refused w_5_116 [0] rfl dX6_bestUnderstudy_17 rfl rfl rfl rfl ⟨by decide, by decide⟩ (Nat.le_of_ble_eq_true rfl) ?_
    rintro _ _ ⟨rfl, rfl⟩
    show ω [(hM, .inr (6, [.int (nI 0), .ref x1, .int (nI sz), .ref x3, .ref x4, .ref x5, .int (nI ac), .ref x7, .ref x8, .ref x9, .ref x10, .ref x11, .int (nI sp), .int (nI ou)])), (x9, .inl (eI E, 6, .inl t1)), (x10, .inl (eI E, 6, .inl t2)), (x11, .inl (eI E, 6, .inl t3)), (x3, .inl (eI E, 255, .inl g)), (x4, .inl (eI E, 255, .inl g4))] [(0, .ref hM), (1, .int (nI p))] [.int (bP (0 < 0))] 20
    refine r_if_eqT C (y := 0) 25 dX6_bestUnderstudy_20 (by decide) (z_eqB.mpr (by decide)) ?_
    refine r_iconst C dX6_bestUnderstudy_25 ki_m1 ?_
    refine r_istore_n C (lv' := [(2, .int (mI 0)), (0, .ref hM), (1, .int (nI p))]) dX6_bestUnderstudy_26 rfl (by decide) rfl ?_
    refine r_iconst C dX6_bestUnderstudy_27 ki_0 ?_
    refine r_istore_n C (lv' := [(3, .int (nI 0)), (2, .int (mI 0)), (0, .ref hM), (1, .int (nI p))]) dX6_bestUnderstudy_28 rfl (by decide) rfl ?_
    refine r_iconst C dX6_bestUnderstudy_29 ki_0 ?_
    refine r_istore C (lv' := [(4, .int (nI 0)), (3, .int (nI 0)), (2, .int (mI 0)), (0, .ref hM), (1, .int (nI p))]) dX6_bestUnderstudy_30 (by decide) rfl ?_
    refine r_iconst C dX6_bestUnderstudy_32 ki_0 ?_
    refine r_istore C (lv' := [(5, .int (nI 0)), (4, .int (nI 0)), (3, .int (nI 0)), (2, .int (mI 0)), (0, .ref hM), (1, .int (nI p))]) dX6_bestUnderstudy_33 (by decide) rfl ?_
    have loop35_2 : ∀ (dd9 : Nat) (a : Nat) (b : Nat) (f : Nat) (m : Nat) (s1 : Nat → Int32) (s2 : Nat → Int32) (s3 : Nat → Int32) (s4 : Nat → Int32), sA σ - a < dd9 → (a ≤ sA σ) → ((b, f, m) = bu σ p a) → (f ≤ 20 ∧ m ≤ 20000 ∧ b ≤ a) → ω [(hM, .inr (6, [.int (nI 0), .ref x1, .int (nI sz), .ref x3, .ref x4, .ref x5, .int (nI ac), .ref x7, .ref x8, .ref x9, .ref x10, .ref x11, .int (nI sp), .int (nI ou)])), (x9, .inl (eI E, 6, .inl s1)), (x10, .inl (eI E, 6, .inl s2)), (x11, .inl (eI E, 6, .inl s3)), (x3, .inl (eI E, 255, .inl g)), (x4, .inl (eI E, 255, .inl s4))] [(5, .int (nI a)), (4, .int (nI m)), (3, .int (nI f)), (2, .int (mI b)), (0, .ref hM), (1, .int (nI p))] [] 35 := by
      intro dd9
      induction dd9 with
      | zero => intro a b f m s1 s2 s3 s4 hd; exact absurd hd (Nat.not_lt_zero _)
      | succ dd9 ih3 =>
        intro a b f m s1 s2 s3 s4 hd ha hbu hfm
        refine r_iload C (i := 5) 0 dX6_bestUnderstudy_35 rfl ?_
        refine r_aload_n C (i := 0) 4 dX6_bestUnderstudy_37 rfl rfl ?_
        refine r_get C 0 3 uX6 rfl rfl (by decide) w_5_64 rfl dX6_bestUnderstudy_38 ?_
        refine r_iconst C dX6_bestUnderstudy_41 ki_1 ?_
        refine r_iald (j := 1) (v := nI (sA σ)) C 4 rfl (by omega) (by decide) hR.A dX6_bestUnderstudy_42 ?_
        refine r_icmp_ge C (c9 := sA σ ≤ a) 178 dX6_bestUnderstudy_43 (by decide) (c_leNN (by omega) (by omega)) (fun h43_4 => ?_) (fun h43_4 => ?_)
        · refine r_iload_n C (i := 2) 3 dX6_bestUnderstudy_178 rfl rfl ?_
          exact RT.1 _ _ _ _ _ dX6_bestUnderstudy_179 rfl rfl (⟨_, _, _, _, sv (congrArg mI (by rw [← (by omega : a = sA σ), ← hbu])), rfl⟩) rfl
        · refine r_aload_n C (i := 0) 4 dX6_bestUnderstudy_46 rfl rfl ?_
          refine r_get C 0 3 uX6 rfl rfl (by decide) w_5_64 rfl dX6_bestUnderstudy_47 ?_
          refine r_iload_n C (i := 1) 5 dX6_bestUnderstudy_50 rfl rfl ?_
          refine r_iload C (i := 5) 0 dX6_bestUnderstudy_51 rfl ?_
          refine r_readS (rest := []) C (c_X6_canStudy (r := x3) (g := g) (σ := σ) (p := p) (a := a) (hR := hR) (hW := hW) (hp := (by omega)) (ha := (by omega))) lk_X6_canStudy w_5_163 [4] dX6_bestUnderstudy_53 rfl rfl rfl ⟨by decide, by decide⟩ (Nat.le_of_ble_eq_true rfl) (st' := [.int (bP (p < sP σ ∧ a < sA σ ∧ sC σ p < 4 ∧ rk σ p a = 0))]) rfl ?_
          refine r_if_eq C (y := 0) (c9 := ¬ (p < sP σ ∧ a < sA σ ∧ sC σ p < 4 ∧ rk σ p a = 0)) 172 dX6_bestUnderstudy_56 (by decide) z_eqB (fun h56_5 => ?_) (fun h56_5 => ?_)
          · refine r_iinc C (lv' := [(5, .int (nI (a + 1))), (4, .int (nI m)), (3, .int (nI f)), (2, .int (mI b)), (0, .ref hM), (1, .int (nI p))]) (v := nI (a + 1)) 0 dX6_bestUnderstudy_172 rfl (v_inc _) (by decide) rfl ?_
            refine r_goto C 35 dX6_bestUnderstudy_175 (by decide) ?_
            exact ih3 (a + 1) b f m s1 s2 s3 s4 (by omega) (by omega) (bu_n hbu (fun z => h56_5 z.1)) (⟨by omega, by omega, by omega⟩)
          · replace h56_5 : p < sP σ ∧ a < sA σ ∧ sC σ p < 4 ∧ rk σ p a = 0 := Decidable.not_not.mp h56_5
            refine r_aload_n C (i := 0) 4 dX6_bestUnderstudy_59 rfl rfl ?_
            refine r_get C 0 3 uX6 rfl rfl (by decide) w_5_64 rfl dX6_bestUnderstudy_60 ?_
            refine r_iconst C dX6_bestUnderstudy_63 ki_0 ?_
            refine r_aload_n C (i := 0) 4 dX6_bestUnderstudy_64 rfl rfl ?_
            refine r_get C 0 4 uX6 rfl rfl (by decide) w_5_65 rfl dX6_bestUnderstudy_65 ?_
            refine r_iconst C dX6_bestUnderstudy_68 ki_0 ?_
            refine r_callS (rest := []) C (c_X6_copyState__255_255 (q2 := x3) (q3 := x4) (fa := 0) (ta := 0) (F := g) (F2 := s4) (hf := (by omega)) (ht := (by omega))) lk_X6_copyState w_5_196 [4, 5] dX6_bestUnderstudy_69 rfl rfl rfl ⟨by decide, by decide⟩ (Nat.le_of_ble_eq_true rfl) ?_
            rintro _ _ ⟨rfl, rfl⟩
            show ω [(hM, .inr (6, [.int (nI 0), .ref x1, .int (nI sz), .ref x3, .ref x4, .ref x5, .int (nI ac), .ref x7, .ref x8, .ref x9, .ref x10, .ref x11, .int (nI sp), .int (nI ou)])), (x9, .inl (eI E, 6, .inl s1)), (x10, .inl (eI E, 6, .inl s2)), (x11, .inl (eI E, 6, .inl s3)), (x3, .inl (eI E, 255, .inl g)), (x4, .inl (eI E, 255, .inl (va_cpy g s4 0 0 255)))] [(5, .int (nI a)), (4, .int (nI m)), (3, .int (nI f)), (2, .int (mI b)), (0, .ref hM), (1, .int (nI p))] [] 72
            have hcp6 : RepM σ (va_cpy g s4 0 0 255) := RepM_cp hR hW
            have hcs := h56_5
            obtain ⟨hc1, hc2, hc3, hc4⟩ := hcs
            refine r_aload_n C (i := 0) 4 dX6_bestUnderstudy_72 rfl rfl ?_
            refine r_get C 0 4 uX6 rfl rfl (by decide) w_5_65 rfl dX6_bestUnderstudy_73 ?_
            refine r_iload_n C (i := 1) 5 dX6_bestUnderstudy_76 rfl rfl ?_
            refine r_iload C (i := 5) 0 dX6_bestUnderstudy_77 rfl ?_
            refine r_callS (rest := []) C (c_X6_studyOn (r := x4) (g := va_cpy g s4 0 0 255) (σ := σ) (p := p) (a := a) (hR := hcp6) (hW := hW) (hp := (by omega)) (ha := (by omega)) (hC := (by omega))) lk_X6_studyOn w_5_169 [5] dX6_bestUnderstudy_79 rfl rfl rfl ⟨by decide, by decide⟩ (Nat.le_of_ble_eq_true rfl) ?_
            rintro _ _ ⟨g_7, rfl, rfl, hR_8⟩
            have hW_9 : Wf (oStudy σ p a) := oStudy_wf hW (by omega) (by omega)
            show ω [(hM, .inr (6, [.int (nI 0), .ref x1, .int (nI sz), .ref x3, .ref x4, .ref x5, .int (nI ac), .ref x7, .ref x8, .ref x9, .ref x10, .ref x11, .int (nI sp), .int (nI ou)])), (x9, .inl (eI E, 6, .inl s1)), (x10, .inl (eI E, 6, .inl s2)), (x11, .inl (eI E, 6, .inl s3)), (x3, .inl (eI E, 255, .inl g)), (x4, .inl (eI E, 255, .inl g_7))] [(5, .int (nI a)), (4, .int (nI m)), (3, .int (nI f)), (2, .int (mI b)), (0, .ref hM), (1, .int (nI p))] [.int (nI (sC σ p + 1))] 82
            refine r_pop C dX6_bestUnderstudy_82 rfl ?_
            refine r_aload_n C (i := 0) 4 dX6_bestUnderstudy_83 rfl rfl ?_
            refine r_aload_n C (i := 0) 4 dX6_bestUnderstudy_84 rfl rfl ?_
            refine r_get C 0 4 uX6 rfl rfl (by decide) w_5_65 rfl dX6_bestUnderstudy_85 ?_
            refine r_callV (rest := []) C (c_X6_dark (hM := hM) (rf := 0) (x1 := x1) (sz := sz) (x3 := x3) (x4 := x4) (x5 := x5) (ac := ac) (x7 := x7) (x8 := x8) (x9 := x9) (x10 := x10) (x11 := x11) (sp := sp) (ou := ou) (t1 := s1) (t2 := s2) (t3 := s3) (r := x4) (g := g_7) (σ := (oStudy σ p a)) (hR := hR_8) (hW := hW_9)) lk_X6_dark w_5_230 [0, 1, 2, 3, 5] rfl dX6_bestUnderstudy_88 rfl rfl rfl rfl ⟨by decide, by decide⟩ (Nat.le_of_ble_eq_true rfl) ?_
            rintro _ _ ⟨ta_10, tb_11, tc_12, rfl, rfl⟩
            show ω [(hM, .inr (6, [.int (nI 0), .ref x1, .int (nI sz), .ref x3, .ref x4, .ref x5, .int (nI ac), .ref x7, .ref x8, .ref x9, .ref x10, .ref x11, .int (nI sp), .int (nI ou)])), (x9, .inl (eI E, 6, .inl ta_10)), (x10, .inl (eI E, 6, .inl tb_11)), (x11, .inl (eI E, 6, .inl tc_12)), (x3, .inl (eI E, 255, .inl g)), (x4, .inl (eI E, 255, .inl g_7))] [(5, .int (nI a)), (4, .int (nI m)), (3, .int (nI f)), (2, .int (mI b)), (0, .ref hM), (1, .int (nI p))] [.int (nI (dkS (oStudy σ p a) 20))] 91
            refine r_istore C (lv' := [(6, .int (nI (dkS (oStudy σ p a) 20))), (5, .int (nI a)), (4, .int (nI m)), (3, .int (nI f)), (2, .int (mI b)), (0, .ref hM), (1, .int (nI p))]) dX6_bestUnderstudy_91 (by decide) rfl ?_
            refine r_aload_n C (i := 0) 5 dX6_bestUnderstudy_93 rfl rfl ?_
            refine r_aload_n C (i := 0) 5 dX6_bestUnderstudy_94 rfl rfl ?_
            refine r_get C 0 4 uX6 rfl rfl (by decide) w_5_65 rfl dX6_bestUnderstudy_95 ?_
            refine r_callV (rest := []) C (c_X6_allTakings (hM := hM) (rf := 0) (x1 := x1) (sz := sz) (x3 := x3) (x4 := x4) (x5 := x5) (ac := ac) (x7 := x7) (x8 := x8) (x9 := x9) (x10 := x10) (x11 := x11) (sp := sp) (ou := ou) (t1 := ta_10) (t2 := tb_11) (t3 := tc_12) (r := x4) (g := g_7) (σ := (oStudy σ p a)) (hR := hR_8) (hW := hW_9)) lk_X6_allTakings w_5_234 [0, 1, 2, 3, 5] rfl dX6_bestUnderstudy_98 rfl rfl rfl rfl ⟨by decide, by decide⟩ (Nat.le_of_ble_eq_true rfl) ?_
            rintro _ _ ⟨ta_13, tb_14, tc_15, rfl, rfl⟩
            show ω [(hM, .inr (6, [.int (nI 0), .ref x1, .int (nI sz), .ref x3, .ref x4, .ref x5, .int (nI ac), .ref x7, .ref x8, .ref x9, .ref x10, .ref x11, .int (nI sp), .int (nI ou)])), (x9, .inl (eI E, 6, .inl ta_13)), (x10, .inl (eI E, 6, .inl tb_14)), (x11, .inl (eI E, 6, .inl tc_15)), (x3, .inl (eI E, 255, .inl g)), (x4, .inl (eI E, 255, .inl g_7))] [(6, .int (nI (dkS (oStudy σ p a) 20))), (5, .int (nI a)), (4, .int (nI m)), (3, .int (nI f)), (2, .int (mI b)), (0, .ref hM), (1, .int (nI p))] [.int (nI (tkS (oStudy σ p a) 20))] 101
            refine r_istore C (lv' := [(7, .int (nI (tkS (oStudy σ p a) 20))), (6, .int (nI (dkS (oStudy σ p a) 20))), (5, .int (nI a)), (4, .int (nI m)), (3, .int (nI f)), (2, .int (mI b)), (0, .ref hM), (1, .int (nI p))]) dX6_bestUnderstudy_101 (by decide) rfl ?_
            have hdl := dkS_le (oStudy σ p a) 20
            have htl := tkS_le hW_9 (Nat.le_refl 20)
            refine r_iload_n C (i := 2) 5 dX6_bestUnderstudy_103 rfl rfl ?_
            refine r_iconst C dX6_bestUnderstudy_104 ki_m1 ?_
            refine r_icmp_eq C (c9 := b = 0) 127 dX6_bestUnderstudy_105 (by decide) (c_eqMM (by omega) (by omega)) (fun h105_16 => ?_) (fun h105_16 => ?_)
            · refine r_iconst C dX6_bestUnderstudy_127 ki_1 ?_
              refine r_goto C 132 dX6_bestUnderstudy_128 (by decide) ?_
              refine r_istore C (lv' := [(8, .int (nI 1)), (7, .int (nI (tkS (oStudy σ p a) 20))), (6, .int (nI (dkS (oStudy σ p a) 20))), (5, .int (nI a)), (4, .int (nI m)), (3, .int (nI f)), (2, .int (mI b)), (0, .ref hM), (1, .int (nI p))]) dX6_bestUnderstudy_132 (by decide) rfl ?_
              refine r_iload C (i := 8) 0 dX6_bestUnderstudy_134 rfl ?_
              refine r_if_eqF C (y := 0) (tgt := 144) dX6_bestUnderstudy_136 (by decide) (fun z => ((by decide) : ¬ (1 = 0)) ((z_eqN (by omega)).mp z)) ?_
              refine r_iload C (i := 5) 3 dX6_bestUnderstudy_139 rfl ?_
              refine r_goto C 145 dX6_bestUnderstudy_141 (by decide) ?_
              refine r_istore_n C (lv' := [(2, .int (nI a)), (8, .int (nI 1)), (7, .int (nI (tkS (oStudy σ p a) 20))), (6, .int (nI (dkS (oStudy σ p a) 20))), (5, .int (nI a)), (4, .int (nI m)), (3, .int (nI f)), (0, .ref hM), (1, .int (nI p))]) dX6_bestUnderstudy_145 rfl (by decide) rfl ?_
              refine r_iload C (i := 8) 1 dX6_bestUnderstudy_146 rfl ?_
              refine r_if_eqF C (y := 0) (tgt := 156) dX6_bestUnderstudy_148 (by decide) (fun z => ((by decide) : ¬ (1 = 0)) ((z_eqN (by omega)).mp z)) ?_
              refine r_iload C (i := 6) 3 dX6_bestUnderstudy_151 rfl ?_
              refine r_goto C 157 dX6_bestUnderstudy_153 (by decide) ?_
              refine r_istore_n C (lv' := [(3, .int (nI (dkS (oStudy σ p a) 20))), (2, .int (nI a)), (8, .int (nI 1)), (7, .int (nI (tkS (oStudy σ p a) 20))), (6, .int (nI (dkS (oStudy σ p a) 20))), (5, .int (nI a)), (4, .int (nI m)), (0, .ref hM), (1, .int (nI p))]) dX6_bestUnderstudy_157 rfl (by decide) rfl ?_
              refine r_iload C (i := 8) 2 dX6_bestUnderstudy_158 rfl ?_
              refine r_if_eqF C (y := 0) (tgt := 168) dX6_bestUnderstudy_160 (by decide) (fun z => ((by decide) : ¬ (1 = 0)) ((z_eqN (by omega)).mp z)) ?_
              refine r_iload C (i := 7) 3 dX6_bestUnderstudy_163 rfl ?_
              refine r_goto C 170 dX6_bestUnderstudy_165 (by decide) ?_
              refine r_istore C (lv' := [(4, .int (nI (tkS (oStudy σ p a) 20))), (3, .int (nI (dkS (oStudy σ p a) 20))), (2, .int (nI a)), (8, .int (nI 1)), (7, .int (nI (tkS (oStudy σ p a) 20))), (6, .int (nI (dkS (oStudy σ p a) 20))), (5, .int (nI a)), (0, .ref hM), (1, .int (nI p))]) dX6_bestUnderstudy_170 (by decide) rfl ?_
              refine r_iinc C (lv' := [(5, .int (nI (a + 1))), (4, .int (nI (tkS (oStudy σ p a) 20))), (3, .int (nI (dkS (oStudy σ p a) 20))), (2, .int (nI a)), (8, .int (nI 1)), (7, .int (nI (tkS (oStudy σ p a) 20))), (6, .int (nI (dkS (oStudy σ p a) 20))), (0, .ref hM), (1, .int (nI p))]) (v := nI (a + 1)) 6 dX6_bestUnderstudy_172 rfl (v_inc _) (by decide) rfl ?_
              refine r_goto C 35 dX6_bestUnderstudy_175 (by decide) ?_
              refine r_lo (lv' := [(5, .int (nI (a + 1))), (4, .int (nI (tkS (oStudy σ p a) 20))), (3, .int (nI (dkS (oStudy σ p a) 20))), (2, .int (mI (a + 1))), (8, .int (nI 1)), (7, .int (nI (tkS (oStudy σ p a) 20))), (6, .int (nI (dkS (oStudy σ p a) 20))), (0, .ref hM), (1, .int (nI p))]) (by rw [mI_s]) ?_
              refine r_lv (lv' := [(5, .int (nI (a + 1))), (4, .int (nI (tkS (oStudy σ p a) 20))), (3, .int (nI (dkS (oStudy σ p a) 20))), (2, .int (mI (a + 1))), (0, .ref hM), (1, .int (nI p))]) C [0, 1, 2, 3, 7, 8] rfl ?_
              exact ih3 (a + 1) (a + 1) (dkS (oStudy σ p a) 20) (tkS (oStudy σ p a) 20) ta_13 tb_14 tc_15 g_7 (by omega) (by omega) (bu_y hbu h56_5 rfl rfl (by omega)) (⟨by omega, by omega, by omega⟩)
            · refine r_iload C (i := 6) 1 dX6_bestUnderstudy_108 rfl ?_
              refine r_iload_n C (i := 3) 4 dX6_bestUnderstudy_110 rfl rfl ?_
              refine r_icmp_lt C (c9 := dkS (oStudy σ p a) 20 < f) 127 dX6_bestUnderstudy_111 (by decide) (c_ltNN (by omega) (by omega)) (fun h111_17 => ?_) (fun h111_17 => ?_)
              · refine r_iconst C dX6_bestUnderstudy_127 ki_1 ?_
                refine r_goto C 132 dX6_bestUnderstudy_128 (by decide) ?_
                refine r_istore C (lv' := [(8, .int (nI 1)), (7, .int (nI (tkS (oStudy σ p a) 20))), (6, .int (nI (dkS (oStudy σ p a) 20))), (5, .int (nI a)), (4, .int (nI m)), (3, .int (nI f)), (2, .int (mI b)), (0, .ref hM), (1, .int (nI p))]) dX6_bestUnderstudy_132 (by decide) rfl ?_
                refine r_iload C (i := 8) 0 dX6_bestUnderstudy_134 rfl ?_
                refine r_if_eqF C (y := 0) (tgt := 144) dX6_bestUnderstudy_136 (by decide) (fun z => ((by decide) : ¬ (1 = 0)) ((z_eqN (by omega)).mp z)) ?_
                refine r_iload C (i := 5) 3 dX6_bestUnderstudy_139 rfl ?_
                refine r_goto C 145 dX6_bestUnderstudy_141 (by decide) ?_
                refine r_istore_n C (lv' := [(2, .int (nI a)), (8, .int (nI 1)), (7, .int (nI (tkS (oStudy σ p a) 20))), (6, .int (nI (dkS (oStudy σ p a) 20))), (5, .int (nI a)), (4, .int (nI m)), (3, .int (nI f)), (0, .ref hM), (1, .int (nI p))]) dX6_bestUnderstudy_145 rfl (by decide) rfl ?_
                refine r_iload C (i := 8) 1 dX6_bestUnderstudy_146 rfl ?_
                refine r_if_eqF C (y := 0) (tgt := 156) dX6_bestUnderstudy_148 (by decide) (fun z => ((by decide) : ¬ (1 = 0)) ((z_eqN (by omega)).mp z)) ?_
                refine r_iload C (i := 6) 3 dX6_bestUnderstudy_151 rfl ?_
                refine r_goto C 157 dX6_bestUnderstudy_153 (by decide) ?_
                refine r_istore_n C (lv' := [(3, .int (nI (dkS (oStudy σ p a) 20))), (2, .int (nI a)), (8, .int (nI 1)), (7, .int (nI (tkS (oStudy σ p a) 20))), (6, .int (nI (dkS (oStudy σ p a) 20))), (5, .int (nI a)), (4, .int (nI m)), (0, .ref hM), (1, .int (nI p))]) dX6_bestUnderstudy_157 rfl (by decide) rfl ?_
                refine r_iload C (i := 8) 2 dX6_bestUnderstudy_158 rfl ?_
                refine r_if_eqF C (y := 0) (tgt := 168) dX6_bestUnderstudy_160 (by decide) (fun z => ((by decide) : ¬ (1 = 0)) ((z_eqN (by omega)).mp z)) ?_
                refine r_iload C (i := 7) 3 dX6_bestUnderstudy_163 rfl ?_
                refine r_goto C 170 dX6_bestUnderstudy_165 (by decide) ?_
                refine r_istore C (lv' := [(4, .int (nI (tkS (oStudy σ p a) 20))), (3, .int (nI (dkS (oStudy σ p a) 20))), (2, .int (nI a)), (8, .int (nI 1)), (7, .int (nI (tkS (oStudy σ p a) 20))), (6, .int (nI (dkS (oStudy σ p a) 20))), (5, .int (nI a)), (0, .ref hM), (1, .int (nI p))]) dX6_bestUnderstudy_170 (by decide) rfl ?_
                refine r_iinc C (lv' := [(5, .int (nI (a + 1))), (4, .int (nI (tkS (oStudy σ p a) 20))), (3, .int (nI (dkS (oStudy σ p a) 20))), (2, .int (nI a)), (8, .int (nI 1)), (7, .int (nI (tkS (oStudy σ p a) 20))), (6, .int (nI (dkS (oStudy σ p a) 20))), (0, .ref hM), (1, .int (nI p))]) (v := nI (a + 1)) 6 dX6_bestUnderstudy_172 rfl (v_inc _) (by decide) rfl ?_
                refine r_goto C 35 dX6_bestUnderstudy_175 (by decide) ?_
                refine r_lo (lv' := [(5, .int (nI (a + 1))), (4, .int (nI (tkS (oStudy σ p a) 20))), (3, .int (nI (dkS (oStudy σ p a) 20))), (2, .int (mI (a + 1))), (8, .int (nI 1)), (7, .int (nI (tkS (oStudy σ p a) 20))), (6, .int (nI (dkS (oStudy σ p a) 20))), (0, .ref hM), (1, .int (nI p))]) (by rw [mI_s]) ?_
                refine r_lv (lv' := [(5, .int (nI (a + 1))), (4, .int (nI (tkS (oStudy σ p a) 20))), (3, .int (nI (dkS (oStudy σ p a) 20))), (2, .int (mI (a + 1))), (0, .ref hM), (1, .int (nI p))]) C [0, 1, 2, 3, 7, 8] rfl ?_
                exact ih3 (a + 1) (a + 1) (dkS (oStudy σ p a) 20) (tkS (oStudy σ p a) 20) ta_13 tb_14 tc_15 g_7 (by omega) (by omega) (bu_y hbu h56_5 rfl rfl (by omega)) (⟨by omega, by omega, by omega⟩)
              · refine r_iload C (i := 6) 1 dX6_bestUnderstudy_114 rfl ?_
                refine r_iload_n C (i := 3) 4 dX6_bestUnderstudy_116 rfl rfl ?_
                refine r_icmp_ne C (c9 := dkS (oStudy σ p a) 20 ≠ f) 131 dX6_bestUnderstudy_117 (by decide) (c_neNN (by omega) (by omega)) (fun h117_18 => ?_) (fun h117_18 => ?_)
                · refine r_iconst C dX6_bestUnderstudy_131 ki_0 ?_
                  refine r_istore C (lv' := [(8, .int (nI 0)), (7, .int (nI (tkS (oStudy σ p a) 20))), (6, .int (nI (dkS (oStudy σ p a) 20))), (5, .int (nI a)), (4, .int (nI m)), (3, .int (nI f)), (2, .int (mI b)), (0, .ref hM), (1, .int (nI p))]) dX6_bestUnderstudy_132 (by decide) rfl ?_
                  refine r_iload C (i := 8) 0 dX6_bestUnderstudy_134 rfl ?_
                  refine r_if_eqT C (y := 0) 144 dX6_bestUnderstudy_136 (by decide) ((z_eqN (by omega)).mpr (by decide)) ?_
                  refine r_iload_n C (i := 2) 6 dX6_bestUnderstudy_144 rfl rfl ?_
                  refine r_istore_n C (lv' := [(2, .int (mI b)), (8, .int (nI 0)), (7, .int (nI (tkS (oStudy σ p a) 20))), (6, .int (nI (dkS (oStudy σ p a) 20))), (5, .int (nI a)), (4, .int (nI m)), (3, .int (nI f)), (0, .ref hM), (1, .int (nI p))]) dX6_bestUnderstudy_145 rfl (by decide) rfl ?_
                  refine r_iload C (i := 8) 1 dX6_bestUnderstudy_146 rfl ?_
                  refine r_if_eqT C (y := 0) 156 dX6_bestUnderstudy_148 (by decide) ((z_eqN (by omega)).mpr (by decide)) ?_
                  refine r_iload_n C (i := 3) 6 dX6_bestUnderstudy_156 rfl rfl ?_
                  refine r_istore_n C (lv' := [(3, .int (nI f)), (2, .int (mI b)), (8, .int (nI 0)), (7, .int (nI (tkS (oStudy σ p a) 20))), (6, .int (nI (dkS (oStudy σ p a) 20))), (5, .int (nI a)), (4, .int (nI m)), (0, .ref hM), (1, .int (nI p))]) dX6_bestUnderstudy_157 rfl (by decide) rfl ?_
                  refine r_iload C (i := 8) 2 dX6_bestUnderstudy_158 rfl ?_
                  refine r_if_eqT C (y := 0) 168 dX6_bestUnderstudy_160 (by decide) ((z_eqN (by omega)).mpr (by decide)) ?_
                  refine r_iload C (i := 4) 6 dX6_bestUnderstudy_168 rfl ?_
                  refine r_istore C (lv' := [(4, .int (nI m)), (3, .int (nI f)), (2, .int (mI b)), (8, .int (nI 0)), (7, .int (nI (tkS (oStudy σ p a) 20))), (6, .int (nI (dkS (oStudy σ p a) 20))), (5, .int (nI a)), (0, .ref hM), (1, .int (nI p))]) dX6_bestUnderstudy_170 (by decide) rfl ?_
                  refine r_iinc C (lv' := [(5, .int (nI (a + 1))), (4, .int (nI m)), (3, .int (nI f)), (2, .int (mI b)), (8, .int (nI 0)), (7, .int (nI (tkS (oStudy σ p a) 20))), (6, .int (nI (dkS (oStudy σ p a) 20))), (0, .ref hM), (1, .int (nI p))]) (v := nI (a + 1)) 6 dX6_bestUnderstudy_172 rfl (v_inc _) (by decide) rfl ?_
                  refine r_goto C 35 dX6_bestUnderstudy_175 (by decide) ?_
                  refine r_lv (lv' := [(5, .int (nI (a + 1))), (4, .int (nI m)), (3, .int (nI f)), (2, .int (mI b)), (0, .ref hM), (1, .int (nI p))]) C [0, 1, 2, 3, 7, 8] rfl ?_
                  exact ih3 (a + 1) b f m ta_13 tb_14 tc_15 g_7 (by omega) (by omega) (bu_n hbu (fun z => by have := z.2; omega)) (⟨by omega, by omega, by omega⟩)
                · refine r_iload C (i := 7) 0 dX6_bestUnderstudy_120 rfl ?_
                  refine r_iload C (i := 4) 3 dX6_bestUnderstudy_122 rfl ?_
                  refine r_icmp_le C (c9 := tkS (oStudy σ p a) 20 ≤ m) 131 dX6_bestUnderstudy_124 (by decide) (c_leNN (by omega) (by omega)) (fun h124_19 => ?_) (fun h124_19 => ?_)
                  · refine r_iconst C dX6_bestUnderstudy_131 ki_0 ?_
                    refine r_istore C (lv' := [(8, .int (nI 0)), (7, .int (nI (tkS (oStudy σ p a) 20))), (6, .int (nI (dkS (oStudy σ p a) 20))), (5, .int (nI a)), (4, .int (nI m)), (3, .int (nI f)), (2, .int (mI b)), (0, .ref hM), (1, .int (nI p))]) dX6_bestUnderstudy_132 (by decide) rfl ?_
                    refine r_iload C (i := 8) 0 dX6_bestUnderstudy_134 rfl ?_
                    refine r_if_eqT C (y := 0) 144 dX6_bestUnderstudy_136 (by decide) ((z_eqN (by omega)).mpr (by decide)) ?_
                    refine r_iload_n C (i := 2) 6 dX6_bestUnderstudy_144 rfl rfl ?_
                    refine r_istore_n C (lv' := [(2, .int (mI b)), (8, .int (nI 0)), (7, .int (nI (tkS (oStudy σ p a) 20))), (6, .int (nI (dkS (oStudy σ p a) 20))), (5, .int (nI a)), (4, .int (nI m)), (3, .int (nI f)), (0, .ref hM), (1, .int (nI p))]) dX6_bestUnderstudy_145 rfl (by decide) rfl ?_
                    refine r_iload C (i := 8) 1 dX6_bestUnderstudy_146 rfl ?_
                    refine r_if_eqT C (y := 0) 156 dX6_bestUnderstudy_148 (by decide) ((z_eqN (by omega)).mpr (by decide)) ?_
                    refine r_iload_n C (i := 3) 6 dX6_bestUnderstudy_156 rfl rfl ?_
                    refine r_istore_n C (lv' := [(3, .int (nI f)), (2, .int (mI b)), (8, .int (nI 0)), (7, .int (nI (tkS (oStudy σ p a) 20))), (6, .int (nI (dkS (oStudy σ p a) 20))), (5, .int (nI a)), (4, .int (nI m)), (0, .ref hM), (1, .int (nI p))]) dX6_bestUnderstudy_157 rfl (by decide) rfl ?_
                    refine r_iload C (i := 8) 2 dX6_bestUnderstudy_158 rfl ?_
                    refine r_if_eqT C (y := 0) 168 dX6_bestUnderstudy_160 (by decide) ((z_eqN (by omega)).mpr (by decide)) ?_
                    refine r_iload C (i := 4) 6 dX6_bestUnderstudy_168 rfl ?_
                    refine r_istore C (lv' := [(4, .int (nI m)), (3, .int (nI f)), (2, .int (mI b)), (8, .int (nI 0)), (7, .int (nI (tkS (oStudy σ p a) 20))), (6, .int (nI (dkS (oStudy σ p a) 20))), (5, .int (nI a)), (0, .ref hM), (1, .int (nI p))]) dX6_bestUnderstudy_170 (by decide) rfl ?_
                    refine r_iinc C (lv' := [(5, .int (nI (a + 1))), (4, .int (nI m)), (3, .int (nI f)), (2, .int (mI b)), (8, .int (nI 0)), (7, .int (nI (tkS (oStudy σ p a) 20))), (6, .int (nI (dkS (oStudy σ p a) 20))), (0, .ref hM), (1, .int (nI p))]) (v := nI (a + 1)) 6 dX6_bestUnderstudy_172 rfl (v_inc _) (by decide) rfl ?_
                    refine r_goto C 35 dX6_bestUnderstudy_175 (by decide) ?_
                    refine r_lv (lv' := [(5, .int (nI (a + 1))), (4, .int (nI m)), (3, .int (nI f)), (2, .int (mI b)), (0, .ref hM), (1, .int (nI p))]) C [0, 1, 2, 3, 7, 8] rfl ?_
                    exact ih3 (a + 1) b f m ta_13 tb_14 tc_15 g_7 (by omega) (by omega) (bu_n hbu (fun z => by have := z.2; omega)) (⟨by omega, by omega, by omega⟩)
                  · refine r_iconst C dX6_bestUnderstudy_127 ki_1 ?_
                    refine r_goto C 132 dX6_bestUnderstudy_128 (by decide) ?_
                    refine r_istore C (lv' := [(8, .int (nI 1)), (7, .int (nI (tkS (oStudy σ p a) 20))), (6, .int (nI (dkS (oStudy σ p a) 20))), (5, .int (nI a)), (4, .int (nI m)), (3, .int (nI f)), (2, .int (mI b)), (0, .ref hM), (1, .int (nI p))]) dX6_bestUnderstudy_132 (by decide) rfl ?_
                    refine r_iload C (i := 8) 0 dX6_bestUnderstudy_134 rfl ?_
                    refine r_if_eqF C (y := 0) (tgt := 144) dX6_bestUnderstudy_136 (by decide) (fun z => ((by decide) : ¬ (1 = 0)) ((z_eqN (by omega)).mp z)) ?_
                    refine r_iload C (i := 5) 3 dX6_bestUnderstudy_139 rfl ?_
                    refine r_goto C 145 dX6_bestUnderstudy_141 (by decide) ?_
                    refine r_istore_n C (lv' := [(2, .int (nI a)), (8, .int (nI 1)), (7, .int (nI (tkS (oStudy σ p a) 20))), (6, .int (nI (dkS (oStudy σ p a) 20))), (5, .int (nI a)), (4, .int (nI m)), (3, .int (nI f)), (0, .ref hM), (1, .int (nI p))]) dX6_bestUnderstudy_145 rfl (by decide) rfl ?_
                    refine r_iload C (i := 8) 1 dX6_bestUnderstudy_146 rfl ?_
                    refine r_if_eqF C (y := 0) (tgt := 156) dX6_bestUnderstudy_148 (by decide) (fun z => ((by decide) : ¬ (1 = 0)) ((z_eqN (by omega)).mp z)) ?_
                    refine r_iload C (i := 6) 3 dX6_bestUnderstudy_151 rfl ?_
                    refine r_goto C 157 dX6_bestUnderstudy_153 (by decide) ?_
                    refine r_istore_n C (lv' := [(3, .int (nI (dkS (oStudy σ p a) 20))), (2, .int (nI a)), (8, .int (nI 1)), (7, .int (nI (tkS (oStudy σ p a) 20))), (6, .int (nI (dkS (oStudy σ p a) 20))), (5, .int (nI a)), (4, .int (nI m)), (0, .ref hM), (1, .int (nI p))]) dX6_bestUnderstudy_157 rfl (by decide) rfl ?_
                    refine r_iload C (i := 8) 2 dX6_bestUnderstudy_158 rfl ?_
                    refine r_if_eqF C (y := 0) (tgt := 168) dX6_bestUnderstudy_160 (by decide) (fun z => ((by decide) : ¬ (1 = 0)) ((z_eqN (by omega)).mp z)) ?_
                    refine r_iload C (i := 7) 3 dX6_bestUnderstudy_163 rfl ?_
                    refine r_goto C 170 dX6_bestUnderstudy_165 (by decide) ?_
                    refine r_istore C (lv' := [(4, .int (nI (tkS (oStudy σ p a) 20))), (3, .int (nI (dkS (oStudy σ p a) 20))), (2, .int (nI a)), (8, .int (nI 1)), (7, .int (nI (tkS (oStudy σ p a) 20))), (6, .int (nI (dkS (oStudy σ p a) 20))), (5, .int (nI a)), (0, .ref hM), (1, .int (nI p))]) dX6_bestUnderstudy_170 (by decide) rfl ?_
                    refine r_iinc C (lv' := [(5, .int (nI (a + 1))), (4, .int (nI (tkS (oStudy σ p a) 20))), (3, .int (nI (dkS (oStudy σ p a) 20))), (2, .int (nI a)), (8, .int (nI 1)), (7, .int (nI (tkS (oStudy σ p a) 20))), (6, .int (nI (dkS (oStudy σ p a) 20))), (0, .ref hM), (1, .int (nI p))]) (v := nI (a + 1)) 6 dX6_bestUnderstudy_172 rfl (v_inc _) (by decide) rfl ?_
                    refine r_goto C 35 dX6_bestUnderstudy_175 (by decide) ?_
                    refine r_lo (lv' := [(5, .int (nI (a + 1))), (4, .int (nI (tkS (oStudy σ p a) 20))), (3, .int (nI (dkS (oStudy σ p a) 20))), (2, .int (mI (a + 1))), (8, .int (nI 1)), (7, .int (nI (tkS (oStudy σ p a) 20))), (6, .int (nI (dkS (oStudy σ p a) 20))), (0, .ref hM), (1, .int (nI p))]) (by rw [mI_s]) ?_
                    refine r_lv (lv' := [(5, .int (nI (a + 1))), (4, .int (nI (tkS (oStudy σ p a) 20))), (3, .int (nI (dkS (oStudy σ p a) 20))), (2, .int (mI (a + 1))), (0, .ref hM), (1, .int (nI p))]) C [0, 1, 2, 3, 7, 8] rfl ?_
                    exact ih3 (a + 1) (a + 1) (dkS (oStudy σ p a) 20) (tkS (oStudy σ p a) 20) ta_13 tb_14 tc_15 g_7 (by omega) (by omega) (bu_y hbu h56_5 rfl rfl (by omega)) (⟨by omega, by omega, by omega⟩)
    exact loop35_2 _ 0 0 0 0 t1 t2 t3 g4 (Nat.lt_succ_self _) (by omega) rfl (⟨by omega, by omega, by omega⟩)
set_option maxRecDepth 100000 in
set_option maxHeartbeats 1000000 in
theorem c_X6_bestUnderstudy__x1 {l : Launch} {E : Ev} {hM rf x1 sz x3 x4 x5 ac x7 x8 x9 x10 x11 sp ou : Nat} {g : Nat → Int32} {σ : Sg} (hR : RepM σ g) (hW : Wf σ) {p : Int32} (hx : ¬ vI p (sP σ)) : Ct l E yX6_bestUnderstudy cX6_bestUnderstudy 9 (some FieldType.int) 6 146 [.ref hM, .int p] [(hM, .inr (6, [.int (nI rf), .ref x1, .int (nI sz), .ref x3, .ref x4, .ref x5, .int (nI ac), .ref x7, .ref x8, .ref x9, .ref x10, .ref x11, .int (nI sp), .int (nI ou)])), (x3, .inl (eI E, 255, .inl g))] (fun v9 w9 => v9 = some (.int (nI 0)) ∧ w9 = [(hM, .inr (6, [.int (nI 1), .ref x1, .int (nI sz), .ref x3, .ref x4, .ref x5, .int (nI ac), .ref x7, .ref x8, .ref x9, .ref x10, .ref x11, .int (nI sp), .int (nI ou)])), (x3, .inl (eI E, 255, .inl g))]) := by
  have hwP := hW.P
  have hwA := hW.A
  have hwS := hW.S
  refine ct_of (by decide +kernel) (Nat.le_of_ble_eq_true rfl) (fun ω C RT => ?_)
  show ω [(hM, .inr (6, [.int (nI rf), .ref x1, .int (nI sz), .ref x3, .ref x4, .ref x5, .int (nI ac), .ref x7, .ref x8, .ref x9, .ref x10, .ref x11, .int (nI sp), .int (nI ou)])), (x3, .inl (eI E, 255, .inl g))] [(0, .ref hM), (1, .int p)] [] 0
  refine r_aload_n C (i := 0) 0 dX6_bestUnderstudy_0 rfl rfl ?_
  refine r_aload_n C (i := 0) 0 dX6_bestUnderstudy_1 rfl rfl ?_
  refine r_get C 0 3 uX6 rfl rfl (by decide) w_5_64 rfl dX6_bestUnderstudy_2 ?_
  refine r_iload_n C (i := 1) 1 dX6_bestUnderstudy_5 rfl rfl ?_
  refine r_readS (rest := [.ref hM]) C (c_X6_isPart__r (r := x3) (g := g) (σ := σ) (x := p) (hR := hR) (hW := hW)) lk_X6_isPart w_5_151 [1] dX6_bestUnderstudy_6 rfl rfl rfl ⟨by decide, by decide⟩ (Nat.le_of_ble_eq_true rfl) (st' := [.int (bP (vI p (sP σ))), .ref hM]) rfl ?_
  refine r_if_eq C (y := 0) (c9 := ¬ (vI p (sP σ))) 16 dX6_bestUnderstudy_9 (by decide) z_eqB (fun h9_1 => ?_) (fun h9_1 => ?_)
  · refine r_iconst C dX6_bestUnderstudy_16 ki_1 ?_
    refine r_callV (rest := []) C (c_X6_refused (hM := hM) (rf := rf) (x1 := x1) (sz := sz) (x3 := x3) (x4 := x4) (x5 := x5) (ac := ac) (x7 := x7) (x8 := x8) (x9 := x9) (x10 := x10) (x11 := x11) (sp := sp) (ou := ou) (w := 1) (hw := (by omega))) lk_X6_refused w_5_116 [0] rfl dX6_bestUnderstudy_17 rfl rfl rfl rfl ⟨by decide, by decide⟩ (Nat.le_of_ble_eq_true rfl) ?_
    rintro _ _ ⟨rfl, rfl⟩
    show ω [(hM, .inr (6, [.int (nI 1), .ref x1, .int (nI sz), .ref x3, .ref x4, .ref x5, .int (nI ac), .ref x7, .ref x8, .ref x9, .ref x10, .ref x11, .int (nI sp), .int (nI ou)])), (x3, .inl (eI E, 255, .inl g))] [(0, .ref hM), (1, .int p)] [.int (bP (0 < 1))] 20
    refine r_if_eqF C (y := 0) (tgt := 25) dX6_bestUnderstudy_20 (by decide) (fun z => ((by decide) : ¬ (¬ (0 < 1))) (z_eqB.mp z)) ?_
    refine r_iconst C dX6_bestUnderstudy_23 ki_0 ?_
    exact RT.1 _ _ _ _ _ dX6_bestUnderstudy_24 rfl rfl (⟨rfl, rfl⟩) rfl
  · replace h9_1 : vI p (sP σ) := Decidable.not_not.mp h9_1
    refine r_iconst C dX6_bestUnderstudy_12 ki_0 ?_
    refine r_goto C 17 dX6_bestUnderstudy_13 (by decide) ?_
    first | (exfalso; omega) | (exfalso; simp_all; done)
set_option maxRecDepth 100000 in
set_option maxHeartbeats 1000000 in
theorem c_X6_needed {l : Launch} {E : Ev} {hM rf x1 sz x3 x4 x5 ac x7 x8 x9 x10 x11 sp ou : Nat} {t1 t2 t3 : Nat → Int32} {g4 : Nat → Int32} {g : Nat → Int32} {σ : Sg} (hR : RepM σ g) (hW : Wf σ) : Ct l E yX6_needed cX6_needed 6 (some FieldType.int) 5 122 [.ref hM] [(hM, .inr (6, [.int (nI rf), .ref x1, .int (nI sz), .ref x3, .ref x4, .ref x5, .int (nI ac), .ref x7, .ref x8, .ref x9, .ref x10, .ref x11, .int (nI sp), .int (nI ou)])), (x9, .inl (eI E, 6, .inl t1)), (x10, .inl (eI E, 6, .inl t2)), (x11, .inl (eI E, 6, .inl t3)), (x3, .inl (eI E, 255, .inl g)), (x4, .inl (eI E, 255, .inl g4))] (fun v9 w9 => ∃ ta tb tc td : Nat → Int32, v9 = some (.int (mI ((nd σ (sA σ)).1))) ∧ w9 = [(hM, .inr (6, [.int (nI 0), .ref x1, .int (nI sz), .ref x3, .ref x4, .ref x5, .int (nI ac), .ref x7, .ref x8, .ref x9, .ref x10, .ref x11, .int (nI sp), .int (nI ou)])), (x9, .inl (eI E, 6, .inl ta)), (x10, .inl (eI E, 6, .inl tb)), (x11, .inl (eI E, 6, .inl tc)), (x3, .inl (eI E, 255, .inl g)), (x4, .inl (eI E, 255, .inl td))]) := by
  have hwP := hW.P
  have hwA := hW.A
  have hwS := hW.S
  refine ct_of (by decide +kernel) (Nat.le_of_ble_eq_true rfl) (fun ω C RT => ?_)
  show ω [(hM, .inr (6, [.int (nI rf), .ref x1, .int (nI sz), .ref x3, .ref x4, .ref x5, .int (nI ac), .ref x7, .ref x8, .ref x9, .ref x10, .ref x11, .int (nI sp), .int (nI ou)])), (x9, .inl (eI E, 6, .inl t1)), (x10, .inl (eI E, 6, .inl t2)), (x11, .inl (eI E, 6, .inl t3)), (x3, .inl (eI E, 255, .inl g)), (x4, .inl (eI E, 255, .inl g4))] [(0, .ref hM)] [] 0
  refine r_aload_n C (i := 0) 0 dX6_needed_0 rfl rfl ?_
  refine r_iconst C dX6_needed_1 ki_0 ?_
  refine r_put (ws' := [(hM, .inr (6, [.int (nI 0), .ref x1, .int (nI sz), .ref x3, .ref x4, .ref x5, .int (nI ac), .ref x7, .ref x8, .ref x9, .ref x10, .ref x11, .int (nI sp), .int (nI ou)])), (x9, .inl (eI E, 6, .inl t1)), (x10, .inl (eI E, 6, .inl t2)), (x11, .inl (eI E, 6, .inl t3)), (x3, .inl (eI E, 255, .inl g)), (x4, .inl (eI E, 255, .inl g4))]) C 0 0 uX6 rfl tyX6_ok nmX6 rfl (by decide) w_5_61 rfl (tyX6_ok 0 (by decide)) rfl rfl (Nat.le_of_ble_eq_true rfl) rfl dX6_needed_2 ?_
  refine r_iconst C dX6_needed_5 ki_m1 ?_
  refine r_istore_n C (lv' := [(1, .int (mI 0)), (0, .ref hM)]) dX6_needed_6 rfl (by decide) rfl ?_
  refine r_iconst C dX6_needed_7 ki_0 ?_
  refine r_istore_n C (lv' := [(2, .int (nI 0)), (1, .int (mI 0)), (0, .ref hM)]) dX6_needed_8 rfl (by decide) rfl ?_
  refine r_iconst C dX6_needed_9 ki_0 ?_
  refine r_istore_n C (lv' := [(3, .int (nI 0)), (2, .int (nI 0)), (1, .int (mI 0)), (0, .ref hM)]) dX6_needed_10 rfl (by decide) rfl ?_
  have loop11_1 : ∀ (dd9 : Nat) (a : Nat) (b : Nat) (m : Nat) (s1 : Nat → Int32) (s2 : Nat → Int32) (s3 : Nat → Int32) (s4 : Nat → Int32), sA σ - a < dd9 → (a ≤ sA σ) → ((b, m) = nd σ a) → (b ≤ a ∧ m ≤ 20) → ω [(hM, .inr (6, [.int (nI 0), .ref x1, .int (nI sz), .ref x3, .ref x4, .ref x5, .int (nI ac), .ref x7, .ref x8, .ref x9, .ref x10, .ref x11, .int (nI sp), .int (nI ou)])), (x9, .inl (eI E, 6, .inl s1)), (x10, .inl (eI E, 6, .inl s2)), (x11, .inl (eI E, 6, .inl s3)), (x3, .inl (eI E, 255, .inl g)), (x4, .inl (eI E, 255, .inl s4))] [(3, .int (nI a)), (2, .int (nI m)), (1, .int (mI b)), (0, .ref hM)] [] 11 := by
    intro dd9
    induction dd9 with
    | zero => intro a b m s1 s2 s3 s4 hd; exact absurd hd (Nat.not_lt_zero _)
    | succ dd9 ih2 =>
      intro a b m s1 s2 s3 s4 hd ha hnd hbm
      refine r_iload_n C (i := 3) 0 dX6_needed_11 rfl rfl ?_
      refine r_aload_n C (i := 0) 3 dX6_needed_12 rfl rfl ?_
      refine r_get C 0 3 uX6 rfl rfl (by decide) w_5_64 rfl dX6_needed_13 ?_
      refine r_iconst C dX6_needed_16 ki_1 ?_
      refine r_iald (j := 1) (v := nI (sA σ)) C 4 rfl (by omega) (by decide) hR.A dX6_needed_17 ?_
      refine r_icmp_ge C (c9 := sA σ ≤ a) 102 dX6_needed_18 (by decide) (c_leNN (by omega) (by omega)) (fun h18_3 => ?_) (fun h18_3 => ?_)
      · refine r_iload_n C (i := 1) 2 dX6_needed_102 rfl rfl ?_
        exact RT.1 _ _ _ _ _ dX6_needed_103 rfl rfl (⟨_, _, _, _, sv (congrArg mI (by rw [← (by omega : a = sA σ), ← hnd])), rfl⟩) rfl
      · refine r_aload_n C (i := 0) 3 dX6_needed_21 rfl rfl ?_
        refine r_get C 0 3 uX6 rfl rfl (by decide) w_5_64 rfl dX6_needed_22 ?_
        refine r_iconst C dX6_needed_25 ki_0 ?_
        refine r_aload_n C (i := 0) 3 dX6_needed_26 rfl rfl ?_
        refine r_get C 0 4 uX6 rfl rfl (by decide) w_5_65 rfl dX6_needed_27 ?_
        refine r_iconst C dX6_needed_30 ki_0 ?_
        refine r_callS (rest := []) C (c_X6_copyState__255_255 (q2 := x3) (q3 := x4) (fa := 0) (ta := 0) (F := g) (F2 := s4) (hf := (by omega)) (ht := (by omega))) lk_X6_copyState w_5_196 [4, 5] dX6_needed_31 rfl rfl rfl ⟨by decide, by decide⟩ (Nat.le_of_ble_eq_true rfl) ?_
        rintro _ _ ⟨rfl, rfl⟩
        show ω [(hM, .inr (6, [.int (nI 0), .ref x1, .int (nI sz), .ref x3, .ref x4, .ref x5, .int (nI ac), .ref x7, .ref x8, .ref x9, .ref x10, .ref x11, .int (nI sp), .int (nI ou)])), (x9, .inl (eI E, 6, .inl s1)), (x10, .inl (eI E, 6, .inl s2)), (x11, .inl (eI E, 6, .inl s3)), (x3, .inl (eI E, 255, .inl g)), (x4, .inl (eI E, 255, .inl (va_cpy g s4 0 0 255)))] [(3, .int (nI a)), (2, .int (nI m)), (1, .int (mI b)), (0, .ref hM)] [] 34
        refine r_aload_n C (i := 0) 3 dX6_needed_34 rfl rfl ?_
        refine r_get C 0 4 uX6 rfl rfl (by decide) w_5_65 rfl dX6_needed_35 ?_
        refine r_bipush C dX6_needed_38 kb_15 ?_
        refine r_iload_n C (i := 3) 0 dX6_needed_40 rfl rfl ?_
        refine r_iadd (v := nI (15 + a)) C dX6_needed_41 (nI_add _ _) ?_
        refine r_ldc (v := nI 1048575) C dX6_needed_42 w_6_138 ?_
        refine r_iast (j := 15 + a) (ws' := [(hM, .inr (6, [.int (nI 0), .ref x1, .int (nI sz), .ref x3, .ref x4, .ref x5, .int (nI ac), .ref x7, .ref x8, .ref x9, .ref x10, .ref x11, .int (nI sp), .int (nI ou)])), (x9, .inl (eI E, 6, .inl s1)), (x10, .inl (eI E, 6, .inl s2)), (x11, .inl (eI E, 6, .inl s3)), (x3, .inl (eI E, 255, .inl g)), (x4, .inl (eI E, 255, .inl (upd (va_cpy g s4 0 0 255) (15 + a) (nI 1048575))))]) C 5 rfl (by omega) (by decide) rfl dX6_needed_44 ?_
        have hal4 : RepM (oAll σ a 20) (upd (va_cpy g s4 0 0 255) (15 + a) (nI 1048575)) := RepM_all (RepM_cp hR hW) hW (by omega)
        have haw5 : Wf (oAll σ a 20) := oAll_wf hW (by omega)
        have hdl := dkS_le (oAll σ a 20) 20
        refine r_aload_n C (i := 0) 3 dX6_needed_45 rfl rfl ?_
        refine r_aload_n C (i := 0) 3 dX6_needed_46 rfl rfl ?_
        refine r_get C 0 4 uX6 rfl rfl (by decide) w_5_65 rfl dX6_needed_47 ?_
        refine r_callV (rest := []) C (c_X6_dark (hM := hM) (rf := 0) (x1 := x1) (sz := sz) (x3 := x3) (x4 := x4) (x5 := x5) (ac := ac) (x7 := x7) (x8 := x8) (x9 := x9) (x10 := x10) (x11 := x11) (sp := sp) (ou := ou) (t1 := s1) (t2 := s2) (t3 := s3) (r := x4) (g := upd (va_cpy g s4 0 0 255) (15 + a) (nI 1048575)) (σ := (oAll σ a 20)) (hR := hal4) (hW := haw5)) lk_X6_dark w_5_230 [0, 1, 2, 3, 5] rfl dX6_needed_50 rfl rfl rfl rfl ⟨by decide, by decide⟩ (Nat.le_of_ble_eq_true rfl) ?_
        rintro _ _ ⟨ta_6, tb_7, tc_8, rfl, rfl⟩
        show ω [(hM, .inr (6, [.int (nI 0), .ref x1, .int (nI sz), .ref x3, .ref x4, .ref x5, .int (nI ac), .ref x7, .ref x8, .ref x9, .ref x10, .ref x11, .int (nI sp), .int (nI ou)])), (x9, .inl (eI E, 6, .inl ta_6)), (x10, .inl (eI E, 6, .inl tb_7)), (x11, .inl (eI E, 6, .inl tc_8)), (x3, .inl (eI E, 255, .inl g)), (x4, .inl (eI E, 255, .inl (upd (va_cpy g s4 0 0 255) (15 + a) (nI 1048575))))] [(3, .int (nI a)), (2, .int (nI m)), (1, .int (mI b)), (0, .ref hM)] [.int (nI (dkS (oAll σ a 20) 20))] 53
        refine r_istore C (lv' := [(4, .int (nI (dkS (oAll σ a 20) 20))), (3, .int (nI a)), (2, .int (nI m)), (1, .int (mI b)), (0, .ref hM)]) dX6_needed_53 (by decide) rfl ?_
        refine r_iload_n C (i := 1) 3 dX6_needed_55 rfl rfl ?_
        refine r_iconst C dX6_needed_56 ki_m1 ?_
        refine r_icmp_eq C (c9 := b = 0) 66 dX6_needed_57 (by decide) (c_eqMM (by omega) (by omega)) (fun h57_9 => ?_) (fun h57_9 => ?_)
        · refine r_iconst C dX6_needed_66 ki_1 ?_
          refine r_goto C 71 dX6_needed_67 (by decide) ?_
          refine r_istore C (lv' := [(5, .int (nI 1)), (4, .int (nI (dkS (oAll σ a 20) 20))), (3, .int (nI a)), (2, .int (nI m)), (1, .int (mI b)), (0, .ref hM)]) dX6_needed_71 (by decide) rfl ?_
          refine r_iload C (i := 5) 0 dX6_needed_73 rfl ?_
          refine r_if_eqF C (y := 0) (tgt := 82) dX6_needed_75 (by decide) (fun z => ((by decide) : ¬ (1 = 0)) ((z_eqN (by omega)).mp z)) ?_
          refine r_iload_n C (i := 3) 2 dX6_needed_78 rfl rfl ?_
          refine r_goto C 83 dX6_needed_79 (by decide) ?_
          refine r_istore_n C (lv' := [(1, .int (nI a)), (5, .int (nI 1)), (4, .int (nI (dkS (oAll σ a 20) 20))), (3, .int (nI a)), (2, .int (nI m)), (0, .ref hM)]) dX6_needed_83 rfl (by decide) rfl ?_
          refine r_iload C (i := 5) 1 dX6_needed_84 rfl ?_
          refine r_if_eqF C (y := 0) (tgt := 94) dX6_needed_86 (by decide) (fun z => ((by decide) : ¬ (1 = 0)) ((z_eqN (by omega)).mp z)) ?_
          refine r_iload C (i := 4) 2 dX6_needed_89 rfl ?_
          refine r_goto C 95 dX6_needed_91 (by decide) ?_
          refine r_istore_n C (lv' := [(2, .int (nI (dkS (oAll σ a 20) 20))), (1, .int (nI a)), (5, .int (nI 1)), (4, .int (nI (dkS (oAll σ a 20) 20))), (3, .int (nI a)), (0, .ref hM)]) dX6_needed_95 rfl (by decide) rfl ?_
          refine r_iinc C (lv' := [(3, .int (nI (a + 1))), (2, .int (nI (dkS (oAll σ a 20) 20))), (1, .int (nI a)), (5, .int (nI 1)), (4, .int (nI (dkS (oAll σ a 20) 20))), (0, .ref hM)]) (v := nI (a + 1)) 4 dX6_needed_96 rfl (v_inc _) (by decide) rfl ?_
          refine r_goto C 11 dX6_needed_99 (by decide) ?_
          refine r_lo (lv' := [(3, .int (nI (a + 1))), (2, .int (nI (dkS (oAll σ a 20) 20))), (1, .int (mI (a + 1))), (5, .int (nI 1)), (4, .int (nI (dkS (oAll σ a 20) 20))), (0, .ref hM)]) (by rw [mI_s]) ?_
          refine r_lv (lv' := [(3, .int (nI (a + 1))), (2, .int (nI (dkS (oAll σ a 20) 20))), (1, .int (mI (a + 1))), (0, .ref hM)]) C [0, 1, 2, 5] rfl ?_
          exact ih2 (a + 1) (a + 1) (dkS (oAll σ a 20) 20) ta_6 tb_7 tc_8 (upd (va_cpy g s4 0 0 255) (15 + a) (nI 1048575)) (by omega) (by omega) (nd_y hnd (by omega)) (⟨by omega, by omega⟩)
        · refine r_iload C (i := 4) 0 dX6_needed_60 rfl ?_
          refine r_iload_n C (i := 2) 2 dX6_needed_62 rfl rfl ?_
          refine r_icmp_le C (c9 := dkS (oAll σ a 20) 20 ≤ m) 70 dX6_needed_63 (by decide) (c_leNN (by omega) (by omega)) (fun h63_10 => ?_) (fun h63_10 => ?_)
          · refine r_iconst C dX6_needed_70 ki_0 ?_
            refine r_istore C (lv' := [(5, .int (nI 0)), (4, .int (nI (dkS (oAll σ a 20) 20))), (3, .int (nI a)), (2, .int (nI m)), (1, .int (mI b)), (0, .ref hM)]) dX6_needed_71 (by decide) rfl ?_
            refine r_iload C (i := 5) 0 dX6_needed_73 rfl ?_
            refine r_if_eqT C (y := 0) 82 dX6_needed_75 (by decide) ((z_eqN (by omega)).mpr (by decide)) ?_
            refine r_iload_n C (i := 1) 4 dX6_needed_82 rfl rfl ?_
            refine r_istore_n C (lv' := [(1, .int (mI b)), (5, .int (nI 0)), (4, .int (nI (dkS (oAll σ a 20) 20))), (3, .int (nI a)), (2, .int (nI m)), (0, .ref hM)]) dX6_needed_83 rfl (by decide) rfl ?_
            refine r_iload C (i := 5) 1 dX6_needed_84 rfl ?_
            refine r_if_eqT C (y := 0) 94 dX6_needed_86 (by decide) ((z_eqN (by omega)).mpr (by decide)) ?_
            refine r_iload_n C (i := 2) 4 dX6_needed_94 rfl rfl ?_
            refine r_istore_n C (lv' := [(2, .int (nI m)), (1, .int (mI b)), (5, .int (nI 0)), (4, .int (nI (dkS (oAll σ a 20) 20))), (3, .int (nI a)), (0, .ref hM)]) dX6_needed_95 rfl (by decide) rfl ?_
            refine r_iinc C (lv' := [(3, .int (nI (a + 1))), (2, .int (nI m)), (1, .int (mI b)), (5, .int (nI 0)), (4, .int (nI (dkS (oAll σ a 20) 20))), (0, .ref hM)]) (v := nI (a + 1)) 4 dX6_needed_96 rfl (v_inc _) (by decide) rfl ?_
            refine r_goto C 11 dX6_needed_99 (by decide) ?_
            refine r_lv (lv' := [(3, .int (nI (a + 1))), (2, .int (nI m)), (1, .int (mI b)), (0, .ref hM)]) C [0, 1, 2, 5] rfl ?_
            exact ih2 (a + 1) b m ta_6 tb_7 tc_8 (upd (va_cpy g s4 0 0 255) (15 + a) (nI 1048575)) (by omega) (by omega) (nd_n hnd (by omega)) (⟨by omega, by omega⟩)
          · refine r_iconst C dX6_needed_66 ki_1 ?_
            refine r_goto C 71 dX6_needed_67 (by decide) ?_
            refine r_istore C (lv' := [(5, .int (nI 1)), (4, .int (nI (dkS (oAll σ a 20) 20))), (3, .int (nI a)), (2, .int (nI m)), (1, .int (mI b)), (0, .ref hM)]) dX6_needed_71 (by decide) rfl ?_
            refine r_iload C (i := 5) 0 dX6_needed_73 rfl ?_
            refine r_if_eqF C (y := 0) (tgt := 82) dX6_needed_75 (by decide) (fun z => ((by decide) : ¬ (1 = 0)) ((z_eqN (by omega)).mp z)) ?_
            refine r_iload_n C (i := 3) 2 dX6_needed_78 rfl rfl ?_
            refine r_goto C 83 dX6_needed_79 (by decide) ?_
            refine r_istore_n C (lv' := [(1, .int (nI a)), (5, .int (nI 1)), (4, .int (nI (dkS (oAll σ a 20) 20))), (3, .int (nI a)), (2, .int (nI m)), (0, .ref hM)]) dX6_needed_83 rfl (by decide) rfl ?_
            refine r_iload C (i := 5) 1 dX6_needed_84 rfl ?_
            refine r_if_eqF C (y := 0) (tgt := 94) dX6_needed_86 (by decide) (fun z => ((by decide) : ¬ (1 = 0)) ((z_eqN (by omega)).mp z)) ?_
            refine r_iload C (i := 4) 2 dX6_needed_89 rfl ?_
            refine r_goto C 95 dX6_needed_91 (by decide) ?_
            refine r_istore_n C (lv' := [(2, .int (nI (dkS (oAll σ a 20) 20))), (1, .int (nI a)), (5, .int (nI 1)), (4, .int (nI (dkS (oAll σ a 20) 20))), (3, .int (nI a)), (0, .ref hM)]) dX6_needed_95 rfl (by decide) rfl ?_
            refine r_iinc C (lv' := [(3, .int (nI (a + 1))), (2, .int (nI (dkS (oAll σ a 20) 20))), (1, .int (nI a)), (5, .int (nI 1)), (4, .int (nI (dkS (oAll σ a 20) 20))), (0, .ref hM)]) (v := nI (a + 1)) 4 dX6_needed_96 rfl (v_inc _) (by decide) rfl ?_
            refine r_goto C 11 dX6_needed_99 (by decide) ?_
            refine r_lo (lv' := [(3, .int (nI (a + 1))), (2, .int (nI (dkS (oAll σ a 20) 20))), (1, .int (mI (a + 1))), (5, .int (nI 1)), (4, .int (nI (dkS (oAll σ a 20) 20))), (0, .ref hM)]) (by rw [mI_s]) ?_
            refine r_lv (lv' := [(3, .int (nI (a + 1))), (2, .int (nI (dkS (oAll σ a 20) 20))), (1, .int (mI (a + 1))), (0, .ref hM)]) C [0, 1, 2, 5] rfl ?_
            exact ih2 (a + 1) (a + 1) (dkS (oAll σ a 20) 20) ta_6 tb_7 tc_8 (upd (va_cpy g s4 0 0 255) (15 + a) (nI 1048575)) (by omega) (by omega) (nd_y hnd (by omega)) (⟨by omega, by omega⟩)
  exact loop11_1 _ 0 0 0 t1 t2 t3 g4 (Nat.lt_succ_self _) (by omega) rfl (⟨by omega, by omega⟩)
def KeepM (ks : Nat → Sg) (kd : Nat → Nat) (K Z : Nat → Int32) : Prop := ∀ i, i < 2 → kd i ≤ 1 ∧ Z i = nI (kd i) ∧ (kd i = 1 → Wf (ks i) ∧ RepM (ks i) (fun j => K (255 * i + j)))
theorem KeepM_s {ks : Nat → Sg} {kd : Nat → Nat} {K Z g : Nat → Int32} {σ : Sg} (h : KeepM ks kd K Z) {s : Nat} (hs : s < 2) (hW : Wf σ) (hR : RepM σ g) : KeepM (fun i => if i = s then σ else ks i) (fun i => if i = s then 1 else kd i) (va_cpy g K 0 (255 * s) 255) (upd Z s (nI 1)) := by
  intro i hi
  obtain ⟨h1, h2, h3⟩ := h i hi
  show (if i = s then 1 else kd i) ≤ 1 ∧ _ = nI (if i = s then 1 else kd i) ∧ ((if i = s then 1 else kd i) = 1 → Wf (if i = s then σ else ks i) ∧ RepM (if i = s then σ else ks i) (fun j => va_cpy g K 0 (255 * s) 255 (255 * i + j)))
  by_cases e : i = s
  · subst e
    rw [if_pos rfl, if_pos rfl]
    refine ⟨Nat.le_refl 1, pk_us, fun _ => ⟨hW, RepM_eq hW hR (fun j hj => ?_)⟩⟩
    show va_cpy g K 0 (255 * i) 255 (255 * i + j) = g j
    unfold va_cpy
    rw [if_pos (by omega)]; congr 1; omega
  · rw [if_neg e, if_neg e]
    refine ⟨h1, (pk_un e).trans h2, fun z => ⟨(h3 z).1, RepM_eq (h3 z).1 (h3 z).2 (fun j hj => ?_)⟩⟩
    show va_cpy g K 0 (255 * s) 255 (255 * i + j) = K (255 * i + j)
    unfold va_cpy
    rw [if_neg (by omega)]
set_option maxRecDepth 100000 in
set_option maxHeartbeats 1000000 in
theorem c_X6_save {l : Launch} {E : Ev} {hM rf x1 sz x3 x4 x5 ac x7 x8 x9 x10 x11 sp ou : Nat} {g : Nat → Int32} {σ : Sg} (hR : RepM σ g) (hW : Wf σ) {ks : Nat → Sg} {kd : Nat → Nat} {K Z : Nat → Int32} (hK : KeepM ks kd K Z) {s : Nat} (hs : s < 2) : Ct l E yX6_save cX6_save 2 (some FieldType.int) 1 25 [.ref hM, .int (nI s)] [(hM, .inr (6, [.int (nI rf), .ref x1, .int (nI sz), .ref x3, .ref x4, .ref x5, .int (nI ac), .ref x7, .ref x8, .ref x9, .ref x10, .ref x11, .int (nI sp), .int (nI ou)])), (x3, .inl (eI E, 255, .inl g)), (x7, .inl (eI E, 510, .inl K)), (x8, .inl (eZ E, 2, .inl Z))] (fun v9 w9 => ∃ K2 Z2 : Nat → Int32, v9 = some (.int (nI (sS σ))) ∧ w9 = [(hM, .inr (6, [.int (nI 0), .ref x1, .int (nI sz), .ref x3, .ref x4, .ref x5, .int (nI ac), .ref x7, .ref x8, .ref x9, .ref x10, .ref x11, .int (nI sp), .int (nI ou)])), (x3, .inl (eI E, 255, .inl g)), (x7, .inl (eI E, 510, .inl K2)), (x8, .inl (eZ E, 2, .inl Z2))] ∧ KeepM (fun i => if i = s then σ else ks i) (fun i => if i = s then 1 else kd i) K2 Z2) := by
  have hwP := hW.P
  have hwA := hW.A
  have hwS := hW.S
  refine ct_of (by decide +kernel) (Nat.le_of_ble_eq_true rfl) (fun ω C RT => ?_)
  show ω [(hM, .inr (6, [.int (nI rf), .ref x1, .int (nI sz), .ref x3, .ref x4, .ref x5, .int (nI ac), .ref x7, .ref x8, .ref x9, .ref x10, .ref x11, .int (nI sp), .int (nI ou)])), (x3, .inl (eI E, 255, .inl g)), (x7, .inl (eI E, 510, .inl K)), (x8, .inl (eZ E, 2, .inl Z))] [(0, .ref hM), (1, .int (nI s))] [] 0
  refine r_aload_n C (i := 0) 0 dX6_save_0 rfl rfl ?_
  refine r_iload_n C (i := 1) 1 dX6_save_1 rfl rfl ?_
  refine r_i2l (v := lN s) C dX6_save_2 (v_i2l (by omega)) ?_
  refine r_lconst (v := lN 0) C dX6_save_3 (by decide +kernel) ?_
  refine r_lconst (v := lN 1) C dX6_save_4 (by decide +kernel) ?_
  refine r_readS (rest := [.ref hM]) C (c_X6_in (v := lN s) (lw := lN 0) (hg := lN 1)) lk_X6_in w_5_113 [] dX6_save_5 rfl rfl rfl ⟨by decide, by decide⟩ (Nat.le_of_ble_eq_true rfl) (st' := [.int (bP (lN 0 ≤ lN s ∧ lN s ≤ lN 1)), .ref hM]) rfl ?_
  refine r_st (st' := [.int (bP (s ≤ 1)), .ref hM]) (by rw [bP_c (in_N (by omega) (by omega))]) ?_
  refine r_if_eq C (y := 0) (c9 := ¬ (s ≤ 1)) 15 dX6_save_8 (by decide) z_eqB (fun h8_1 => ?_) (fun h8_1 => ?_)
  · refine r_iconst C dX6_save_15 ki_1 ?_
    first | (exfalso; omega) | (exfalso; simp_all; done)
  · replace h8_1 : s ≤ 1 := Decidable.not_not.mp h8_1
    refine r_iconst C dX6_save_11 ki_0 ?_
    refine r_goto C 16 dX6_save_12 (by decide) ?_
    refine r_callV (rest := []) C (c_X6_refused (hM := hM) (rf := rf) (x1 := x1) (sz := sz) (x3 := x3) (x4 := x4) (x5 := x5) (ac := ac) (x7 := x7) (x8 := x8) (x9 := x9) (x10 := x10) (x11 := x11) (sp := sp) (ou := ou) (w := 0) (hw := (by omega))) lk_X6_refused w_5_116 [0] rfl dX6_save_16 rfl rfl rfl rfl ⟨by decide, by decide⟩ (Nat.le_of_ble_eq_true rfl) ?_
    rintro _ _ ⟨rfl, rfl⟩
    show ω [(hM, .inr (6, [.int (nI 0), .ref x1, .int (nI sz), .ref x3, .ref x4, .ref x5, .int (nI ac), .ref x7, .ref x8, .ref x9, .ref x10, .ref x11, .int (nI sp), .int (nI ou)])), (x3, .inl (eI E, 255, .inl g)), (x7, .inl (eI E, 510, .inl K)), (x8, .inl (eZ E, 2, .inl Z))] [(0, .ref hM), (1, .int (nI s))] [.int (bP (0 < 0))] 19
    refine r_if_eqT C (y := 0) 24 dX6_save_19 (by decide) (z_eqB.mpr (by decide)) ?_
    refine r_aload_n C (i := 0) 0 dX6_save_24 rfl rfl ?_
    refine r_get C 0 3 uX6 rfl rfl (by decide) w_5_64 rfl dX6_save_25 ?_
    refine r_iconst C dX6_save_28 ki_0 ?_
    refine r_aload_n C (i := 0) 0 dX6_save_29 rfl rfl ?_
    refine r_get C 0 7 uX6 rfl rfl (by decide) w_5_68 rfl dX6_save_30 ?_
    refine r_sipush C dX6_save_33 ks_255 ?_
    refine r_iload_n C (i := 1) 1 dX6_save_36 rfl rfl ?_
    refine r_imul (v := nI (255 * s)) C dX6_save_37 (pk_mul _ _) ?_
    refine r_callS (rest := []) C (c_X6_copyState__255_510 (q2 := x3) (q3 := x7) (fa := 0) (ta := 255 * s) (F := g) (F2 := K) (hf := (by omega)) (ht := (by omega))) lk_X6_copyState w_5_196 [1, 2] dX6_save_38 rfl rfl rfl ⟨by decide, by decide⟩ (Nat.le_of_ble_eq_true rfl) ?_
    rintro _ _ ⟨rfl, rfl⟩
    show ω [(hM, .inr (6, [.int (nI 0), .ref x1, .int (nI sz), .ref x3, .ref x4, .ref x5, .int (nI ac), .ref x7, .ref x8, .ref x9, .ref x10, .ref x11, .int (nI sp), .int (nI ou)])), (x3, .inl (eI E, 255, .inl g)), (x7, .inl (eI E, 510, .inl (va_cpy g K 0 (255 * s) 255))), (x8, .inl (eZ E, 2, .inl Z))] [(0, .ref hM), (1, .int (nI s))] [] 41
    refine r_aload_n C (i := 0) 0 dX6_save_41 rfl rfl ?_
    refine r_get C 0 8 uX6 rfl rfl (by decide) w_5_69 rfl dX6_save_42 ?_
    refine r_iload_n C (i := 1) 1 dX6_save_45 rfl rfl ?_
    refine r_iconst C dX6_save_46 ki_1 ?_
    refine r_zast (j := s) (ws' := [(hM, .inr (6, [.int (nI 0), .ref x1, .int (nI sz), .ref x3, .ref x4, .ref x5, .int (nI ac), .ref x7, .ref x8, .ref x9, .ref x10, .ref x11, .int (nI sp), .int (nI ou)])), (x3, .inl (eI E, 255, .inl g)), (x7, .inl (eI E, 510, .inl (va_cpy g K 0 (255 * s) 255))), (x8, .inl (eZ E, 2, .inl (upd Z s (nI 1))))]) C 3 rfl (by omega) (by decide) vnar_1 rfl dX6_save_47 ?_
    refine r_aload_n C (i := 0) 0 dX6_save_48 rfl rfl ?_
    refine r_get C 0 3 uX6 rfl rfl (by decide) w_5_64 rfl dX6_save_49 ?_
    refine r_iconst C dX6_save_52 ki_2 ?_
    refine r_iald (j := 2) (v := nI (sS σ)) C 1 rfl (by omega) (by decide) hR.S dX6_save_53 ?_
    exact RT.1 _ _ _ _ _ dX6_save_54 rfl rfl (⟨_, _, rfl, rfl, KeepM_s hK hs hW hR⟩) rfl
set_option maxRecDepth 100000 in
set_option maxHeartbeats 1000000 in
theorem c_X6_save__x1 {l : Launch} {E : Ev} {hM rf x1 sz x3 x4 x5 ac x7 x8 x9 x10 x11 sp ou : Nat} {g : Nat → Int32} {σ : Sg} (hR : RepM σ g) (hW : Wf σ) {s : Int32} (hx : ¬ vI s 2) : Ct l E yX6_save cX6_save 2 (some FieldType.int) 1 25 [.ref hM, .int s] [(hM, .inr (6, [.int (nI rf), .ref x1, .int (nI sz), .ref x3, .ref x4, .ref x5, .int (nI ac), .ref x7, .ref x8, .ref x9, .ref x10, .ref x11, .int (nI sp), .int (nI ou)])), (x3, .inl (eI E, 255, .inl g))] (fun v9 w9 => v9 = some (.int (nI 0)) ∧ w9 = [(hM, .inr (6, [.int (nI 1), .ref x1, .int (nI sz), .ref x3, .ref x4, .ref x5, .int (nI ac), .ref x7, .ref x8, .ref x9, .ref x10, .ref x11, .int (nI sp), .int (nI ou)])), (x3, .inl (eI E, 255, .inl g))]) := by
  have hwP := hW.P
  have hwA := hW.A
  have hwS := hW.S
  refine ct_of (by decide +kernel) (Nat.le_of_ble_eq_true rfl) (fun ω C RT => ?_)
  show ω [(hM, .inr (6, [.int (nI rf), .ref x1, .int (nI sz), .ref x3, .ref x4, .ref x5, .int (nI ac), .ref x7, .ref x8, .ref x9, .ref x10, .ref x11, .int (nI sp), .int (nI ou)])), (x3, .inl (eI E, 255, .inl g))] [(0, .ref hM), (1, .int s)] [] 0
  refine r_aload_n C (i := 0) 0 dX6_save_0 rfl rfl ?_
  refine r_iload_n C (i := 1) 1 dX6_save_1 rfl rfl ?_
  refine r_i2l (v := (s).toInt64) C dX6_save_2 rfl ?_
  refine r_lconst (v := lN 0) C dX6_save_3 (by decide +kernel) ?_
  refine r_lconst (v := lN 1) C dX6_save_4 (by decide +kernel) ?_
  refine r_readS (rest := [.ref hM]) C (c_X6_in (v := (s).toInt64) (lw := lN 0) (hg := lN 1)) lk_X6_in w_5_113 [] dX6_save_5 rfl rfl rfl ⟨by decide, by decide⟩ (Nat.le_of_ble_eq_true rfl) (st' := [.int (bP (lN 0 ≤ (s).toInt64 ∧ (s).toInt64 ≤ lN 1)), .ref hM]) rfl ?_
  refine r_st (st' := [.int (bP (vI s (2))), .ref hM]) (by rw [bP_c (in_r (by omega))]) ?_
  refine r_if_eq C (y := 0) (c9 := ¬ (vI s (2))) 15 dX6_save_8 (by decide) z_eqB (fun h8_1 => ?_) (fun h8_1 => ?_)
  · refine r_iconst C dX6_save_15 ki_1 ?_
    refine r_callV (rest := []) C (c_X6_refused (hM := hM) (rf := rf) (x1 := x1) (sz := sz) (x3 := x3) (x4 := x4) (x5 := x5) (ac := ac) (x7 := x7) (x8 := x8) (x9 := x9) (x10 := x10) (x11 := x11) (sp := sp) (ou := ou) (w := 1) (hw := (by omega))) lk_X6_refused w_5_116 [0] rfl dX6_save_16 rfl rfl rfl rfl ⟨by decide, by decide⟩ (Nat.le_of_ble_eq_true rfl) ?_
    rintro _ _ ⟨rfl, rfl⟩
    show ω [(hM, .inr (6, [.int (nI 1), .ref x1, .int (nI sz), .ref x3, .ref x4, .ref x5, .int (nI ac), .ref x7, .ref x8, .ref x9, .ref x10, .ref x11, .int (nI sp), .int (nI ou)])), (x3, .inl (eI E, 255, .inl g))] [(0, .ref hM), (1, .int s)] [.int (bP (0 < 1))] 19
    refine r_if_eqF C (y := 0) (tgt := 24) dX6_save_19 (by decide) (fun z => ((by decide) : ¬ (¬ (0 < 1))) (z_eqB.mp z)) ?_
    refine r_iconst C dX6_save_22 ki_0 ?_
    exact RT.1 _ _ _ _ _ dX6_save_23 rfl rfl (⟨rfl, rfl⟩) rfl
  · replace h8_1 : vI s (2) := Decidable.not_not.mp h8_1
    refine r_iconst C dX6_save_11 ki_0 ?_
    refine r_goto C 16 dX6_save_12 (by decide) ?_
    first | (exfalso; omega) | (exfalso; simp_all; done)
set_option maxRecDepth 100000 in
set_option maxHeartbeats 1000000 in
theorem c_X6_restore {l : Launch} {E : Ev} {hM rf x1 sz x3 x4 x5 ac x7 x8 x9 x10 x11 sp ou : Nat} {g : Nat → Int32} {σ : Sg} (hR : RepM σ g) (hW : Wf σ) {ks : Nat → Sg} {kd : Nat → Nat} {K Z : Nat → Int32} (hK : KeepM ks kd K Z) {s : Nat} (hs : s < 2) (hk1 : kd s = 1) : Ct l E yX6_restore cX6_restore 2 (some FieldType.int) 1 25 [.ref hM, .int (nI s)] [(hM, .inr (6, [.int (nI rf), .ref x1, .int (nI sz), .ref x3, .ref x4, .ref x5, .int (nI ac), .ref x7, .ref x8, .ref x9, .ref x10, .ref x11, .int (nI sp), .int (nI ou)])), (x3, .inl (eI E, 255, .inl g)), (x7, .inl (eI E, 510, .inl K)), (x8, .inl (eZ E, 2, .inl Z))] (fun v9 w9 => ∃ g2 : Nat → Int32, v9 = some (.int (nI (sS (ks s)))) ∧ w9 = [(hM, .inr (6, [.int (nI 0), .ref x1, .int (nI sz), .ref x3, .ref x4, .ref x5, .int (nI 0), .ref x7, .ref x8, .ref x9, .ref x10, .ref x11, .int (nI sp), .int (nI ou)])), (x3, .inl (eI E, 255, .inl g2)), (x7, .inl (eI E, 510, .inl K)), (x8, .inl (eZ E, 2, .inl Z))] ∧ RepM (ks s) g2) := by
  have hwP := hW.P
  have hwA := hW.A
  have hwS := hW.S
  refine ct_of (by decide +kernel) (Nat.le_of_ble_eq_true rfl) (fun ω C RT => ?_)
  show ω [(hM, .inr (6, [.int (nI rf), .ref x1, .int (nI sz), .ref x3, .ref x4, .ref x5, .int (nI ac), .ref x7, .ref x8, .ref x9, .ref x10, .ref x11, .int (nI sp), .int (nI ou)])), (x3, .inl (eI E, 255, .inl g)), (x7, .inl (eI E, 510, .inl K)), (x8, .inl (eZ E, 2, .inl Z))] [(0, .ref hM), (1, .int (nI s))] [] 0
  refine r_aload_n C (i := 0) 0 dX6_restore_0 rfl rfl ?_
  refine r_iload_n C (i := 1) 1 dX6_restore_1 rfl rfl ?_
  refine r_i2l (v := lN s) C dX6_restore_2 (v_i2l (by omega)) ?_
  refine r_lconst (v := lN 0) C dX6_restore_3 (by decide +kernel) ?_
  refine r_lconst (v := lN 1) C dX6_restore_4 (by decide +kernel) ?_
  refine r_readS (rest := [.ref hM]) C (c_X6_in (v := lN s) (lw := lN 0) (hg := lN 1)) lk_X6_in w_5_113 [] dX6_restore_5 rfl rfl rfl ⟨by decide, by decide⟩ (Nat.le_of_ble_eq_true rfl) (st' := [.int (bP (lN 0 ≤ lN s ∧ lN s ≤ lN 1)), .ref hM]) rfl ?_
  refine r_st (st' := [.int (bP (s ≤ 1)), .ref hM]) (by rw [bP_c (in_N (by omega) (by omega))]) ?_
  refine r_if_ne C (y := 0) (c9 := s ≤ 1) 15 dX6_restore_8 (by decide) z_neB (fun h8_1 => ?_) (fun h8_1 => ?_)
  · refine r_aload_n C (i := 0) 0 dX6_restore_15 rfl rfl ?_
    refine r_get C 0 8 uX6 rfl rfl (by decide) w_5_69 rfl dX6_restore_16 ?_
    refine r_iload_n C (i := 1) 1 dX6_restore_19 rfl rfl ?_
    refine r_zald (j := s) (v := nI 1) C 3 rfl (by omega) (by decide) ((hK s hs).2.1.trans (by rw [hk1])) dX6_restore_20 ?_
    refine r_if_neT C (y := 0) 28 dX6_restore_21 (by decide) ((z_neN (by omega)).mpr (by decide)) ?_
    refine r_iconst C dX6_restore_28 ki_0 ?_
    refine r_callV (rest := []) C (c_X6_refused (hM := hM) (rf := rf) (x1 := x1) (sz := sz) (x3 := x3) (x4 := x4) (x5 := x5) (ac := ac) (x7 := x7) (x8 := x8) (x9 := x9) (x10 := x10) (x11 := x11) (sp := sp) (ou := ou) (w := 0) (hw := (by omega))) lk_X6_refused w_5_116 [0] rfl dX6_restore_29 rfl rfl rfl rfl ⟨by decide, by decide⟩ (Nat.le_of_ble_eq_true rfl) ?_
    rintro _ _ ⟨rfl, rfl⟩
    show ω [(hM, .inr (6, [.int (nI 0), .ref x1, .int (nI sz), .ref x3, .ref x4, .ref x5, .int (nI ac), .ref x7, .ref x8, .ref x9, .ref x10, .ref x11, .int (nI sp), .int (nI ou)])), (x3, .inl (eI E, 255, .inl g)), (x7, .inl (eI E, 510, .inl K)), (x8, .inl (eZ E, 2, .inl Z))] [(0, .ref hM), (1, .int (nI s))] [.int (bP (0 < 0))] 32
    refine r_if_eqT C (y := 0) 37 dX6_restore_32 (by decide) (z_eqB.mpr (by decide)) ?_
    refine r_aload_n C (i := 0) 0 dX6_restore_37 rfl rfl ?_
    refine r_get C 0 7 uX6 rfl rfl (by decide) w_5_68 rfl dX6_restore_38 ?_
    refine r_sipush C dX6_restore_41 ks_255 ?_
    refine r_iload_n C (i := 1) 1 dX6_restore_44 rfl rfl ?_
    refine r_imul (v := nI (255 * s)) C dX6_restore_45 (pk_mul _ _) ?_
    refine r_aload_n C (i := 0) 0 dX6_restore_46 rfl rfl ?_
    refine r_get C 0 3 uX6 rfl rfl (by decide) w_5_64 rfl dX6_restore_47 ?_
    refine r_iconst C dX6_restore_50 ki_0 ?_
    refine r_callS (rest := []) C (c_X6_copyState__510_255 (q2 := x7) (q3 := x3) (fa := 255 * s) (ta := 0) (F := K) (F2 := g) (hf := (by omega)) (ht := (by omega))) lk_X6_copyState w_5_196 [2, 1] dX6_restore_51 rfl rfl rfl ⟨by decide, by decide⟩ (Nat.le_of_ble_eq_true rfl) ?_
    rintro _ _ ⟨rfl, rfl⟩
    show ω [(hM, .inr (6, [.int (nI 0), .ref x1, .int (nI sz), .ref x3, .ref x4, .ref x5, .int (nI ac), .ref x7, .ref x8, .ref x9, .ref x10, .ref x11, .int (nI sp), .int (nI ou)])), (x3, .inl (eI E, 255, .inl (va_cpy K g (255 * s) 0 255))), (x7, .inl (eI E, 510, .inl K)), (x8, .inl (eZ E, 2, .inl Z))] [(0, .ref hM), (1, .int (nI s))] [] 54
    refine r_aload_n C (i := 0) 0 dX6_restore_54 rfl rfl ?_
    refine r_iconst C dX6_restore_55 ki_0 ?_
    refine r_put (ws' := [(hM, .inr (6, [.int (nI 0), .ref x1, .int (nI sz), .ref x3, .ref x4, .ref x5, .int (nI 0), .ref x7, .ref x8, .ref x9, .ref x10, .ref x11, .int (nI sp), .int (nI ou)])), (x3, .inl (eI E, 255, .inl (va_cpy K g (255 * s) 0 255))), (x7, .inl (eI E, 510, .inl K)), (x8, .inl (eZ E, 2, .inl Z))]) C 0 6 uX6 rfl tyX6_ok nmX6 rfl (by decide) w_5_67 rfl (tyX6_ok 6 (by decide)) rfl rfl (Nat.le_of_ble_eq_true rfl) rfl dX6_restore_56 ?_
    refine r_aload_n C (i := 0) 0 dX6_restore_59 rfl rfl ?_
    refine r_get C 0 3 uX6 rfl rfl (by decide) w_5_64 rfl dX6_restore_60 ?_
    refine r_iconst C dX6_restore_63 ki_2 ?_
    refine r_iald (j := 2) (v := nI (sS (ks s))) C 1 rfl (by omega) (by decide) ((cpyWhole (by decide)).trans ((hK s hs).2.2 hk1).2.S) dX6_restore_64 ?_
    exact RT.1 _ _ _ _ _ dX6_restore_65 rfl rfl (⟨_, rfl, rfl, RepM_eq ((hK s hs).2.2 hk1).1 ((hK s hs).2.2 hk1).2 (fun j hj => cpyWhole hj)⟩) rfl
  · refine r_iconst C dX6_restore_11 ki_1 ?_
    refine r_goto C 29 dX6_restore_12 (by decide) ?_
    first | (exfalso; omega) | (exfalso; simp_all; done)
set_option maxRecDepth 100000 in
set_option maxHeartbeats 1000000 in
theorem c_X6_restore__x1 {l : Launch} {E : Ev} {hM rf x1 sz x3 x4 x5 ac x7 x8 x9 x10 x11 sp ou : Nat} {g : Nat → Int32} {σ : Sg} (hR : RepM σ g) (hW : Wf σ) {s : Int32} (hx : ¬ vI s 2) : Ct l E yX6_restore cX6_restore 2 (some FieldType.int) 1 25 [.ref hM, .int s] [(hM, .inr (6, [.int (nI rf), .ref x1, .int (nI sz), .ref x3, .ref x4, .ref x5, .int (nI ac), .ref x7, .ref x8, .ref x9, .ref x10, .ref x11, .int (nI sp), .int (nI ou)])), (x3, .inl (eI E, 255, .inl g))] (fun v9 w9 => v9 = some (.int (nI 0)) ∧ w9 = [(hM, .inr (6, [.int (nI 1), .ref x1, .int (nI sz), .ref x3, .ref x4, .ref x5, .int (nI ac), .ref x7, .ref x8, .ref x9, .ref x10, .ref x11, .int (nI sp), .int (nI ou)])), (x3, .inl (eI E, 255, .inl g))]) := by
  have hwP := hW.P
  have hwA := hW.A
  have hwS := hW.S
  refine ct_of (by decide +kernel) (Nat.le_of_ble_eq_true rfl) (fun ω C RT => ?_)
  show ω [(hM, .inr (6, [.int (nI rf), .ref x1, .int (nI sz), .ref x3, .ref x4, .ref x5, .int (nI ac), .ref x7, .ref x8, .ref x9, .ref x10, .ref x11, .int (nI sp), .int (nI ou)])), (x3, .inl (eI E, 255, .inl g))] [(0, .ref hM), (1, .int s)] [] 0
  refine r_aload_n C (i := 0) 0 dX6_restore_0 rfl rfl ?_
  refine r_iload_n C (i := 1) 1 dX6_restore_1 rfl rfl ?_
  refine r_i2l (v := (s).toInt64) C dX6_restore_2 rfl ?_
  refine r_lconst (v := lN 0) C dX6_restore_3 (by decide +kernel) ?_
  refine r_lconst (v := lN 1) C dX6_restore_4 (by decide +kernel) ?_
  refine r_readS (rest := [.ref hM]) C (c_X6_in (v := (s).toInt64) (lw := lN 0) (hg := lN 1)) lk_X6_in w_5_113 [] dX6_restore_5 rfl rfl rfl ⟨by decide, by decide⟩ (Nat.le_of_ble_eq_true rfl) (st' := [.int (bP (lN 0 ≤ (s).toInt64 ∧ (s).toInt64 ≤ lN 1)), .ref hM]) rfl ?_
  refine r_st (st' := [.int (bP (vI s (2))), .ref hM]) (by rw [bP_c (in_r (by omega))]) ?_
  refine r_if_ne C (y := 0) (c9 := vI s (2)) 15 dX6_restore_8 (by decide) z_neB (fun h8_1 => ?_) (fun h8_1 => ?_)
  · exact absurd h8_1 hx
  · refine r_iconst C dX6_restore_11 ki_1 ?_
    refine r_goto C 29 dX6_restore_12 (by decide) ?_
    refine r_callV (rest := []) C (c_X6_refused (hM := hM) (rf := rf) (x1 := x1) (sz := sz) (x3 := x3) (x4 := x4) (x5 := x5) (ac := ac) (x7 := x7) (x8 := x8) (x9 := x9) (x10 := x10) (x11 := x11) (sp := sp) (ou := ou) (w := 1) (hw := (by omega))) lk_X6_refused w_5_116 [0] rfl dX6_restore_29 rfl rfl rfl rfl ⟨by decide, by decide⟩ (Nat.le_of_ble_eq_true rfl) ?_
    rintro _ _ ⟨rfl, rfl⟩
    show ω [(hM, .inr (6, [.int (nI 1), .ref x1, .int (nI sz), .ref x3, .ref x4, .ref x5, .int (nI ac), .ref x7, .ref x8, .ref x9, .ref x10, .ref x11, .int (nI sp), .int (nI ou)])), (x3, .inl (eI E, 255, .inl g))] [(0, .ref hM), (1, .int s)] [.int (bP (0 < 1))] 32
    refine r_if_eqF C (y := 0) (tgt := 37) dX6_restore_32 (by decide) (fun z => ((by decide) : ¬ (¬ (0 < 1))) (z_eqB.mp z)) ?_
    refine r_iconst C dX6_restore_35 ki_0 ?_
    exact RT.1 _ _ _ _ _ dX6_restore_36 rfl rfl (⟨rfl, rfl⟩) rfl
set_option maxRecDepth 100000 in
set_option maxHeartbeats 1000000 in
theorem c_X6_restore__x2 {l : Launch} {E : Ev} {hM rf x1 sz x3 x4 x5 ac x7 x8 x9 x10 x11 sp ou : Nat} {g : Nat → Int32} {σ : Sg} (hR : RepM σ g) (hW : Wf σ) {ks : Nat → Sg} {kd : Nat → Nat} {K Z : Nat → Int32} (hK : KeepM ks kd K Z) {s : Nat} (hs : s < 2) (hk0 : kd s = 0) : Ct l E yX6_restore cX6_restore 2 (some FieldType.int) 1 25 [.ref hM, .int (nI s)] [(hM, .inr (6, [.int (nI rf), .ref x1, .int (nI sz), .ref x3, .ref x4, .ref x5, .int (nI ac), .ref x7, .ref x8, .ref x9, .ref x10, .ref x11, .int (nI sp), .int (nI ou)])), (x3, .inl (eI E, 255, .inl g)), (x7, .inl (eI E, 510, .inl K)), (x8, .inl (eZ E, 2, .inl Z))] (fun v9 w9 => v9 = some (.int (nI 0)) ∧ w9 = [(hM, .inr (6, [.int (nI 2), .ref x1, .int (nI sz), .ref x3, .ref x4, .ref x5, .int (nI ac), .ref x7, .ref x8, .ref x9, .ref x10, .ref x11, .int (nI sp), .int (nI ou)])), (x3, .inl (eI E, 255, .inl g)), (x7, .inl (eI E, 510, .inl K)), (x8, .inl (eZ E, 2, .inl Z))]) := by
  have hwP := hW.P
  have hwA := hW.A
  have hwS := hW.S
  refine ct_of (by decide +kernel) (Nat.le_of_ble_eq_true rfl) (fun ω C RT => ?_)
  show ω [(hM, .inr (6, [.int (nI rf), .ref x1, .int (nI sz), .ref x3, .ref x4, .ref x5, .int (nI ac), .ref x7, .ref x8, .ref x9, .ref x10, .ref x11, .int (nI sp), .int (nI ou)])), (x3, .inl (eI E, 255, .inl g)), (x7, .inl (eI E, 510, .inl K)), (x8, .inl (eZ E, 2, .inl Z))] [(0, .ref hM), (1, .int (nI s))] [] 0
  refine r_aload_n C (i := 0) 0 dX6_restore_0 rfl rfl ?_
  refine r_iload_n C (i := 1) 1 dX6_restore_1 rfl rfl ?_
  refine r_i2l (v := lN s) C dX6_restore_2 (v_i2l (by omega)) ?_
  refine r_lconst (v := lN 0) C dX6_restore_3 (by decide +kernel) ?_
  refine r_lconst (v := lN 1) C dX6_restore_4 (by decide +kernel) ?_
  refine r_readS (rest := [.ref hM]) C (c_X6_in (v := lN s) (lw := lN 0) (hg := lN 1)) lk_X6_in w_5_113 [] dX6_restore_5 rfl rfl rfl ⟨by decide, by decide⟩ (Nat.le_of_ble_eq_true rfl) (st' := [.int (bP (lN 0 ≤ lN s ∧ lN s ≤ lN 1)), .ref hM]) rfl ?_
  refine r_st (st' := [.int (bP (s ≤ 1)), .ref hM]) (by rw [bP_c (in_N (by omega) (by omega))]) ?_
  refine r_if_ne C (y := 0) (c9 := s ≤ 1) 15 dX6_restore_8 (by decide) z_neB (fun h8_1 => ?_) (fun h8_1 => ?_)
  · refine r_aload_n C (i := 0) 0 dX6_restore_15 rfl rfl ?_
    refine r_get C 0 8 uX6 rfl rfl (by decide) w_5_69 rfl dX6_restore_16 ?_
    refine r_iload_n C (i := 1) 1 dX6_restore_19 rfl rfl ?_
    refine r_zald (j := s) (v := nI 0) C 3 rfl (by omega) (by decide) ((hK s hs).2.1.trans (by rw [hk0])) dX6_restore_20 ?_
    refine r_if_neF C (y := 0) (tgt := 28) dX6_restore_21 (by decide) (fun z => ((by decide) : ¬ (0 ≠ 0)) ((z_neN (by omega)).mp z)) ?_
    refine r_iconst C dX6_restore_24 ki_2 ?_
    refine r_goto C 29 dX6_restore_25 (by decide) ?_
    refine r_callV (rest := []) C (c_X6_refused (hM := hM) (rf := rf) (x1 := x1) (sz := sz) (x3 := x3) (x4 := x4) (x5 := x5) (ac := ac) (x7 := x7) (x8 := x8) (x9 := x9) (x10 := x10) (x11 := x11) (sp := sp) (ou := ou) (w := 2) (hw := (by omega))) lk_X6_refused w_5_116 [0] rfl dX6_restore_29 rfl rfl rfl rfl ⟨by decide, by decide⟩ (Nat.le_of_ble_eq_true rfl) ?_
    rintro _ _ ⟨rfl, rfl⟩
    show ω [(hM, .inr (6, [.int (nI 2), .ref x1, .int (nI sz), .ref x3, .ref x4, .ref x5, .int (nI ac), .ref x7, .ref x8, .ref x9, .ref x10, .ref x11, .int (nI sp), .int (nI ou)])), (x3, .inl (eI E, 255, .inl g)), (x7, .inl (eI E, 510, .inl K)), (x8, .inl (eZ E, 2, .inl Z))] [(0, .ref hM), (1, .int (nI s))] [.int (bP (0 < 2))] 32
    refine r_if_eqF C (y := 0) (tgt := 37) dX6_restore_32 (by decide) (fun z => ((by decide) : ¬ (¬ (0 < 2))) (z_eqB.mp z)) ?_
    refine r_iconst C dX6_restore_35 ki_0 ?_
    exact RT.1 _ _ _ _ _ dX6_restore_36 rfl rfl (⟨rfl, rfl⟩) rfl
  · refine r_iconst C dX6_restore_11 ki_1 ?_
    refine r_goto C 29 dX6_restore_12 (by decide) ?_
    first | (exfalso; omega) | (exfalso; simp_all; done)
set_option maxRecDepth 100000 in
set_option maxHeartbeats 1000000 in
theorem c_X6_append {l : Launch} {E : Ev} {hM rf x1 sz x3 x4 x5 ac x7 x8 x9 x10 x11 sp ou : Nat} {g : Nat → Int32} {σ : Sg} (hR : RepM σ g) (hW : Wf σ) {tx : Nat → Int32} {c : Nat} (hc : c < 256) (hz : sz < 120) : Ct l E yX6_append cX6_append 2 (some FieldType.int) 1 25 [.ref hM, .int (nI c)] [(hM, .inr (6, [.int (nI rf), .ref x1, .int (nI sz), .ref x3, .ref x4, .ref x5, .int (nI ac), .ref x7, .ref x8, .ref x9, .ref x10, .ref x11, .int (nI sp), .int (nI ou)])), (x3, .inl (eI E, 255, .inl g)), (x1, .inl (eI E, 120, .inl tx))] (fun v9 w9 => v9 = some (.int (nI (sz + 1))) ∧ w9 = [(hM, .inr (6, [.int (nI 0), .ref x1, .int (nI (sz + 1)), .ref x3, .ref x4, .ref x5, .int (nI ac), .ref x7, .ref x8, .ref x9, .ref x10, .ref x11, .int (nI sp), .int (nI ou)])), (x3, .inl (eI E, 255, .inl g)), (x1, .inl (eI E, 120, .inl (upd tx sz (nI c))))]) := by
  have hwP := hW.P
  have hwA := hW.A
  have hwS := hW.S
  refine ct_of (by decide +kernel) (Nat.le_of_ble_eq_true rfl) (fun ω C RT => ?_)
  show ω [(hM, .inr (6, [.int (nI rf), .ref x1, .int (nI sz), .ref x3, .ref x4, .ref x5, .int (nI ac), .ref x7, .ref x8, .ref x9, .ref x10, .ref x11, .int (nI sp), .int (nI ou)])), (x3, .inl (eI E, 255, .inl g)), (x1, .inl (eI E, 120, .inl tx))] [(0, .ref hM), (1, .int (nI c))] [] 0
  refine r_aload_n C (i := 0) 0 dX6_append_0 rfl rfl ?_
  refine r_iload_n C (i := 1) 1 dX6_append_1 rfl rfl ?_
  refine r_i2l (v := lN c) C dX6_append_2 (v_i2l (by omega)) ?_
  refine r_lconst (v := lN 0) C dX6_append_3 (by decide +kernel) ?_
  refine r_ldc2 (v := lN 255) C dX6_append_4 w_5_112 ?_
  refine r_readS (rest := [.ref hM]) C (c_X6_in (v := lN c) (lw := lN 0) (hg := lN 255)) lk_X6_in w_5_113 [] dX6_append_7 rfl rfl rfl ⟨by decide, by decide⟩ (Nat.le_of_ble_eq_true rfl) (st' := [.int (bP (lN 0 ≤ lN c ∧ lN c ≤ lN 255)), .ref hM]) rfl ?_
  refine r_st (st' := [.int (bP (c ≤ 255)), .ref hM]) (by rw [bP_c (in_N (by omega) (by omega))]) ?_
  refine r_if_ne C (y := 0) (c9 := c ≤ 255) 17 dX6_append_10 (by decide) z_neB (fun h10_1 => ?_) (fun h10_1 => ?_)
  · refine r_aload_n C (i := 0) 0 dX6_append_17 rfl rfl ?_
    refine r_get C 0 2 uX6 rfl rfl (by decide) w_5_63 rfl dX6_append_18 ?_
    refine r_bipush C dX6_append_21 kb_120 ?_
    refine r_icmp_ne C (c9 := sz ≠ 120) 30 dX6_append_23 (by decide) (c_neNN (by omega) (by omega)) (fun h23_2 => ?_) (fun h23_2 => ?_)
    · refine r_iconst C dX6_append_30 ki_0 ?_
      refine r_callV (rest := []) C (c_X6_refused (hM := hM) (rf := rf) (x1 := x1) (sz := sz) (x3 := x3) (x4 := x4) (x5 := x5) (ac := ac) (x7 := x7) (x8 := x8) (x9 := x9) (x10 := x10) (x11 := x11) (sp := sp) (ou := ou) (w := 0) (hw := (by omega))) lk_X6_refused w_5_116 [0] rfl dX6_append_31 rfl rfl rfl rfl ⟨by decide, by decide⟩ (Nat.le_of_ble_eq_true rfl) ?_
      rintro _ _ ⟨rfl, rfl⟩
      show ω [(hM, .inr (6, [.int (nI 0), .ref x1, .int (nI sz), .ref x3, .ref x4, .ref x5, .int (nI ac), .ref x7, .ref x8, .ref x9, .ref x10, .ref x11, .int (nI sp), .int (nI ou)])), (x3, .inl (eI E, 255, .inl g)), (x1, .inl (eI E, 120, .inl tx))] [(0, .ref hM), (1, .int (nI c))] [.int (bP (0 < 0))] 34
      refine r_if_eqT C (y := 0) 39 dX6_append_34 (by decide) (z_eqB.mpr (by decide)) ?_
      refine r_aload_n C (i := 0) 0 dX6_append_39 rfl rfl ?_
      refine r_get C 0 1 uX6 rfl rfl (by decide) w_5_62 rfl dX6_append_40 ?_
      refine r_aload_n C (i := 0) 0 dX6_append_43 rfl rfl ?_
      refine r_get C 0 2 uX6 rfl rfl (by decide) w_5_63 rfl dX6_append_44 ?_
      refine r_iload_n C (i := 1) 1 dX6_append_47 rfl rfl ?_
      refine r_iast (j := sz) (ws' := [(hM, .inr (6, [.int (nI 0), .ref x1, .int (nI sz), .ref x3, .ref x4, .ref x5, .int (nI ac), .ref x7, .ref x8, .ref x9, .ref x10, .ref x11, .int (nI sp), .int (nI ou)])), (x3, .inl (eI E, 255, .inl g)), (x1, .inl (eI E, 120, .inl (upd tx sz (nI c))))]) C 2 rfl (by omega) (by decide) rfl dX6_append_48 ?_
      refine r_aload_n C (i := 0) 0 dX6_append_49 rfl rfl ?_
      refine r_dup C dX6_append_50 rfl ?_
      refine r_get C 0 2 uX6 rfl rfl (by decide) w_5_63 rfl dX6_append_51 ?_
      refine r_iconst C dX6_append_54 ki_1 ?_
      refine r_iadd (v := nI (sz + 1)) C dX6_append_55 (nI_add _ _) ?_
      refine r_put (ws' := [(hM, .inr (6, [.int (nI 0), .ref x1, .int (nI (sz + 1)), .ref x3, .ref x4, .ref x5, .int (nI ac), .ref x7, .ref x8, .ref x9, .ref x10, .ref x11, .int (nI sp), .int (nI ou)])), (x3, .inl (eI E, 255, .inl g)), (x1, .inl (eI E, 120, .inl (upd tx sz (nI c))))]) C 0 2 uX6 rfl tyX6_ok nmX6 rfl (by decide) w_5_63 rfl (tyX6_ok 2 (by decide)) rfl rfl (Nat.le_of_ble_eq_true rfl) rfl dX6_append_56 ?_
      refine r_aload_n C (i := 0) 0 dX6_append_59 rfl rfl ?_
      refine r_get C 0 2 uX6 rfl rfl (by decide) w_5_63 rfl dX6_append_60 ?_
      exact RT.1 _ _ _ _ _ dX6_append_63 rfl rfl (⟨rfl, rfl⟩) rfl
    · refine r_iconst C dX6_append_26 ki_2 ?_
      refine r_goto C 31 dX6_append_27 (by decide) ?_
      first | (exfalso; omega) | (exfalso; simp_all; done)
  · refine r_iconst C dX6_append_13 ki_1 ?_
    refine r_goto C 31 dX6_append_14 (by decide) ?_
    first | (exfalso; omega) | (exfalso; simp_all; done)
set_option maxRecDepth 100000 in
set_option maxHeartbeats 1000000 in
theorem c_X6_append__x1 {l : Launch} {E : Ev} {hM rf x1 sz x3 x4 x5 ac x7 x8 x9 x10 x11 sp ou : Nat} {g : Nat → Int32} {σ : Sg} (hR : RepM σ g) (hW : Wf σ) {c : Int32} (hx : ¬ vI c 256) : Ct l E yX6_append cX6_append 2 (some FieldType.int) 1 25 [.ref hM, .int c] [(hM, .inr (6, [.int (nI rf), .ref x1, .int (nI sz), .ref x3, .ref x4, .ref x5, .int (nI ac), .ref x7, .ref x8, .ref x9, .ref x10, .ref x11, .int (nI sp), .int (nI ou)])), (x3, .inl (eI E, 255, .inl g))] (fun v9 w9 => v9 = some (.int (nI 0)) ∧ w9 = [(hM, .inr (6, [.int (nI 1), .ref x1, .int (nI sz), .ref x3, .ref x4, .ref x5, .int (nI ac), .ref x7, .ref x8, .ref x9, .ref x10, .ref x11, .int (nI sp), .int (nI ou)])), (x3, .inl (eI E, 255, .inl g))]) := by
  have hwP := hW.P
  have hwA := hW.A
  have hwS := hW.S
  refine ct_of (by decide +kernel) (Nat.le_of_ble_eq_true rfl) (fun ω C RT => ?_)
  show ω [(hM, .inr (6, [.int (nI rf), .ref x1, .int (nI sz), .ref x3, .ref x4, .ref x5, .int (nI ac), .ref x7, .ref x8, .ref x9, .ref x10, .ref x11, .int (nI sp), .int (nI ou)])), (x3, .inl (eI E, 255, .inl g))] [(0, .ref hM), (1, .int c)] [] 0
  refine r_aload_n C (i := 0) 0 dX6_append_0 rfl rfl ?_
  refine r_iload_n C (i := 1) 1 dX6_append_1 rfl rfl ?_
  refine r_i2l (v := (c).toInt64) C dX6_append_2 rfl ?_
  refine r_lconst (v := lN 0) C dX6_append_3 (by decide +kernel) ?_
  refine r_ldc2 (v := lN 255) C dX6_append_4 w_5_112 ?_
  refine r_readS (rest := [.ref hM]) C (c_X6_in (v := (c).toInt64) (lw := lN 0) (hg := lN 255)) lk_X6_in w_5_113 [] dX6_append_7 rfl rfl rfl ⟨by decide, by decide⟩ (Nat.le_of_ble_eq_true rfl) (st' := [.int (bP (lN 0 ≤ (c).toInt64 ∧ (c).toInt64 ≤ lN 255)), .ref hM]) rfl ?_
  refine r_st (st' := [.int (bP (vI c (256))), .ref hM]) (by rw [bP_c (in_r (by omega))]) ?_
  refine r_if_ne C (y := 0) (c9 := vI c (256)) 17 dX6_append_10 (by decide) z_neB (fun h10_1 => ?_) (fun h10_1 => ?_)
  · exact absurd h10_1 hx
  · refine r_iconst C dX6_append_13 ki_1 ?_
    refine r_goto C 31 dX6_append_14 (by decide) ?_
    refine r_callV (rest := []) C (c_X6_refused (hM := hM) (rf := rf) (x1 := x1) (sz := sz) (x3 := x3) (x4 := x4) (x5 := x5) (ac := ac) (x7 := x7) (x8 := x8) (x9 := x9) (x10 := x10) (x11 := x11) (sp := sp) (ou := ou) (w := 1) (hw := (by omega))) lk_X6_refused w_5_116 [0] rfl dX6_append_31 rfl rfl rfl rfl ⟨by decide, by decide⟩ (Nat.le_of_ble_eq_true rfl) ?_
    rintro _ _ ⟨rfl, rfl⟩
    show ω [(hM, .inr (6, [.int (nI 1), .ref x1, .int (nI sz), .ref x3, .ref x4, .ref x5, .int (nI ac), .ref x7, .ref x8, .ref x9, .ref x10, .ref x11, .int (nI sp), .int (nI ou)])), (x3, .inl (eI E, 255, .inl g))] [(0, .ref hM), (1, .int c)] [.int (bP (0 < 1))] 34
    refine r_if_eqF C (y := 0) (tgt := 39) dX6_append_34 (by decide) (fun z => ((by decide) : ¬ (¬ (0 < 1))) (z_eqB.mp z)) ?_
    refine r_iconst C dX6_append_37 ki_0 ?_
    exact RT.1 _ _ _ _ _ dX6_append_38 rfl rfl (⟨rfl, rfl⟩) rfl
set_option maxRecDepth 100000 in
set_option maxHeartbeats 1000000 in
theorem c_X6_append__x2 {l : Launch} {E : Ev} {hM rf x1 sz x3 x4 x5 ac x7 x8 x9 x10 x11 sp ou : Nat} {g : Nat → Int32} {σ : Sg} (hR : RepM σ g) (hW : Wf σ) {c : Nat} (hc : c < 256) (hx : sz = 120) : Ct l E yX6_append cX6_append 2 (some FieldType.int) 1 25 [.ref hM, .int (nI c)] [(hM, .inr (6, [.int (nI rf), .ref x1, .int (nI sz), .ref x3, .ref x4, .ref x5, .int (nI ac), .ref x7, .ref x8, .ref x9, .ref x10, .ref x11, .int (nI sp), .int (nI ou)])), (x3, .inl (eI E, 255, .inl g))] (fun v9 w9 => v9 = some (.int (nI 0)) ∧ w9 = [(hM, .inr (6, [.int (nI 2), .ref x1, .int (nI sz), .ref x3, .ref x4, .ref x5, .int (nI ac), .ref x7, .ref x8, .ref x9, .ref x10, .ref x11, .int (nI sp), .int (nI ou)])), (x3, .inl (eI E, 255, .inl g))]) := by
  have hwP := hW.P
  have hwA := hW.A
  have hwS := hW.S
  refine ct_of (by decide +kernel) (Nat.le_of_ble_eq_true rfl) (fun ω C RT => ?_)
  show ω [(hM, .inr (6, [.int (nI rf), .ref x1, .int (nI sz), .ref x3, .ref x4, .ref x5, .int (nI ac), .ref x7, .ref x8, .ref x9, .ref x10, .ref x11, .int (nI sp), .int (nI ou)])), (x3, .inl (eI E, 255, .inl g))] [(0, .ref hM), (1, .int (nI c))] [] 0
  refine r_aload_n C (i := 0) 0 dX6_append_0 rfl rfl ?_
  refine r_iload_n C (i := 1) 1 dX6_append_1 rfl rfl ?_
  refine r_i2l (v := lN c) C dX6_append_2 (v_i2l (by omega)) ?_
  refine r_lconst (v := lN 0) C dX6_append_3 (by decide +kernel) ?_
  refine r_ldc2 (v := lN 255) C dX6_append_4 w_5_112 ?_
  refine r_readS (rest := [.ref hM]) C (c_X6_in (v := lN c) (lw := lN 0) (hg := lN 255)) lk_X6_in w_5_113 [] dX6_append_7 rfl rfl rfl ⟨by decide, by decide⟩ (Nat.le_of_ble_eq_true rfl) (st' := [.int (bP (lN 0 ≤ lN c ∧ lN c ≤ lN 255)), .ref hM]) rfl ?_
  refine r_st (st' := [.int (bP (c ≤ 255)), .ref hM]) (by rw [bP_c (in_N (by omega) (by omega))]) ?_
  refine r_if_ne C (y := 0) (c9 := c ≤ 255) 17 dX6_append_10 (by decide) z_neB (fun h10_1 => ?_) (fun h10_1 => ?_)
  · refine r_aload_n C (i := 0) 0 dX6_append_17 rfl rfl ?_
    refine r_get C 0 2 uX6 rfl rfl (by decide) w_5_63 rfl dX6_append_18 ?_
    refine r_bipush C dX6_append_21 kb_120 ?_
    refine r_icmp_ne C (c9 := sz ≠ 120) 30 dX6_append_23 (by decide) (c_neNN (by omega) (by omega)) (fun h23_2 => ?_) (fun h23_2 => ?_)
    · refine r_iconst C dX6_append_30 ki_0 ?_
      first | (exfalso; omega) | (exfalso; simp_all; done)
    · refine r_iconst C dX6_append_26 ki_2 ?_
      refine r_goto C 31 dX6_append_27 (by decide) ?_
      refine r_callV (rest := []) C (c_X6_refused (hM := hM) (rf := rf) (x1 := x1) (sz := sz) (x3 := x3) (x4 := x4) (x5 := x5) (ac := ac) (x7 := x7) (x8 := x8) (x9 := x9) (x10 := x10) (x11 := x11) (sp := sp) (ou := ou) (w := 2) (hw := (by omega))) lk_X6_refused w_5_116 [0] rfl dX6_append_31 rfl rfl rfl rfl ⟨by decide, by decide⟩ (Nat.le_of_ble_eq_true rfl) ?_
      rintro _ _ ⟨rfl, rfl⟩
      show ω [(hM, .inr (6, [.int (nI 2), .ref x1, .int (nI sz), .ref x3, .ref x4, .ref x5, .int (nI ac), .ref x7, .ref x8, .ref x9, .ref x10, .ref x11, .int (nI sp), .int (nI ou)])), (x3, .inl (eI E, 255, .inl g))] [(0, .ref hM), (1, .int (nI c))] [.int (bP (0 < 2))] 34
      refine r_if_eqF C (y := 0) (tgt := 39) dX6_append_34 (by decide) (fun z => ((by decide) : ¬ (¬ (0 < 2))) (z_eqB.mp z)) ?_
      refine r_iconst C dX6_append_37 ki_0 ?_
      exact RT.1 _ _ _ _ _ dX6_append_38 rfl rfl (⟨rfl, rfl⟩) rfl
  · refine r_iconst C dX6_append_13 ki_1 ?_
    refine r_goto C 31 dX6_append_14 (by decide) ?_
    first | (exfalso; omega) | (exfalso; simp_all; done)
set_option maxRecDepth 100000 in
set_option maxHeartbeats 1000000 in
theorem c_X6_clearText {l : Launch} {E : Ev} {hM rf x1 sz x3 x4 x5 ac x7 x8 x9 x10 x11 sp ou : Nat} {g : Nat → Int32} {σ : Sg} (hR : RepM σ g) (hW : Wf σ)  : Ct l E yX6_clearText cX6_clearText 2 (some FieldType.int) 0 0 [.ref hM] [(hM, .inr (6, [.int (nI rf), .ref x1, .int (nI sz), .ref x3, .ref x4, .ref x5, .int (nI ac), .ref x7, .ref x8, .ref x9, .ref x10, .ref x11, .int (nI sp), .int (nI ou)])), (x3, .inl (eI E, 255, .inl g))] (fun v9 w9 => v9 = some (.int (nI sz)) ∧ w9 = [(hM, .inr (6, [.int (nI 0), .ref x1, .int (nI 0), .ref x3, .ref x4, .ref x5, .int (nI ac), .ref x7, .ref x8, .ref x9, .ref x10, .ref x11, .int (nI sp), .int (nI ou)])), (x3, .inl (eI E, 255, .inl g))]) := by
  have hwP := hW.P
  have hwA := hW.A
  have hwS := hW.S
  refine ct_of (by decide +kernel) (Nat.le_of_ble_eq_true rfl) (fun ω C RT => ?_)
  show ω [(hM, .inr (6, [.int (nI rf), .ref x1, .int (nI sz), .ref x3, .ref x4, .ref x5, .int (nI ac), .ref x7, .ref x8, .ref x9, .ref x10, .ref x11, .int (nI sp), .int (nI ou)])), (x3, .inl (eI E, 255, .inl g))] [(0, .ref hM)] [] 0
  refine r_aload_n C (i := 0) 0 dX6_clearText_0 rfl rfl ?_
  refine r_iconst C dX6_clearText_1 ki_0 ?_
  refine r_put (ws' := [(hM, .inr (6, [.int (nI 0), .ref x1, .int (nI sz), .ref x3, .ref x4, .ref x5, .int (nI ac), .ref x7, .ref x8, .ref x9, .ref x10, .ref x11, .int (nI sp), .int (nI ou)])), (x3, .inl (eI E, 255, .inl g))]) C 0 0 uX6 rfl tyX6_ok nmX6 rfl (by decide) w_5_61 rfl (tyX6_ok 0 (by decide)) rfl rfl (Nat.le_of_ble_eq_true rfl) rfl dX6_clearText_2 ?_
  refine r_aload_n C (i := 0) 0 dX6_clearText_5 rfl rfl ?_
  refine r_get C 0 2 uX6 rfl rfl (by decide) w_5_63 rfl dX6_clearText_6 ?_
  refine r_istore_n C (lv' := [(1, .int (nI sz)), (0, .ref hM)]) dX6_clearText_9 rfl (by decide) rfl ?_
  refine r_aload_n C (i := 0) 1 dX6_clearText_10 rfl rfl ?_
  refine r_iconst C dX6_clearText_11 ki_0 ?_
  refine r_put (ws' := [(hM, .inr (6, [.int (nI 0), .ref x1, .int (nI 0), .ref x3, .ref x4, .ref x5, .int (nI ac), .ref x7, .ref x8, .ref x9, .ref x10, .ref x11, .int (nI sp), .int (nI ou)])), (x3, .inl (eI E, 255, .inl g))]) C 0 2 uX6 rfl tyX6_ok nmX6 rfl (by decide) w_5_63 rfl (tyX6_ok 2 (by decide)) rfl rfl (Nat.le_of_ble_eq_true rfl) rfl dX6_clearText_12 ?_
  refine r_iload_n C (i := 1) 0 dX6_clearText_15 rfl rfl ?_
  exact RT.1 _ _ _ _ _ dX6_clearText_16 rfl rfl (⟨rfl, rfl⟩) rfl
