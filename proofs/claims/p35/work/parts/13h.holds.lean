set_option maxRecDepth 100000 in
set_option maxHeartbeats 4000000 in
theorem n_holds {l : Launch} {E : Ev} (hst : l.stackTraces = false) {α : Nat → Nat} {σ : Sg} {hs : Nat → Sg} {cnt : Nat} {ks : Nat → Sg} {kd : Nat → Nat} {w : va_W} (hA : Ar E α σ hs cnt ks kd w) (h1 : 1 ≤ sP σ) (h2 : 1 ≤ sA σ) {x : Nat} (hx : x < 2147483648) : CtN l E yL_holds cL_holds 18 (some FieldType.boolean) none 11 252 0 [.ref (α 0), .int (nI x)] w (fun v9 w9 => v9 = some (.int (nI 1)) ∧ Ar E α σ hs cnt ks kd w9) := by
  have hW := hA.W
  have hwP := hW.P
  have hwA := hW.A
  have hwS := hW.S
  refine ctn_of (by decide +kernel) (Nat.le_of_ble_eq_true rfl) (fun Ω hB => ?_)
  have C := hB.1 0 (by omega)
  have RT := hB.2.2.1 0 (by omega)
  show Ω 0 w [(0, .ref (α 0)), (1, .int (nI x))] [] 0
  refine r_iconst C dL_holds_0 ki_0 ?_
  refine r_istore_n C (lv' := [(2, .int (nI 0)), (0, .ref (α 0)), (1, .int (nI x))]) dL_holds_1 rfl (by decide) rfl ?_
  refine r_iconst C dL_holds_2 ki_0 ?_
  refine r_istore_n C (lv' := [(3, .int (nI 0)), (2, .int (nI 0)), (0, .ref (α 0)), (1, .int (nI x))]) dL_holds_3 rfl (by decide) rfl ?_
  refine r_iconst C dL_holds_4 ki_0 ?_
  refine r_istore C (lv' := [(4, .int (nI 0)), (3, .int (nI 0)), (2, .int (nI 0)), (0, .ref (α 0)), (1, .int (nI x))]) dL_holds_5 (by decide) rfl ?_
  refine r_iconst C dL_holds_7 ki_0 ?_
  refine r_istore C (lv' := [(5, .int (nI 0)), (4, .int (nI 0)), (3, .int (nI 0)), (2, .int (nI 0)), (0, .ref (α 0)), (1, .int (nI x))]) dL_holds_8 (by decide) rfl ?_
  refine r_aload_n C (i := 0) 4 dL_holds_10 rfl rfl ?_
  refine r_iconst C dL_holds_11 ki_2 ?_
  refine r_iconst C dL_holds_12 ki_2 ?_
  refine r_iconst C dL_holds_13 ki_0 ?_
  refine r_iconst C dL_holds_14 ki_0 ?_
  refine Ca.on hB.2.2.2 hB.2.1 (j := 0) (K := 0) (rest := []) (by omega) (cl_about_2 hst hA  ).l lk_L_call w_2_41 dL_holds_15 rfl ⟨by decide, by decide⟩ (Nat.le_of_ble_eq_true rfl) ?_
  rintro _ w1 ⟨rfl, hA2⟩
  show Ω 0 w1 [(5, .int (nI 0)), (4, .int (nI 0)), (3, .int (nI 0)), (2, .int (nI 0)), (0, .ref (α 0)), (1, .int (nI x))] [.int (nI (sS σ))] 18
  refine r_istore C (lv' := [(6, .int (nI (sS σ))), (5, .int (nI 0)), (4, .int (nI 0)), (3, .int (nI 0)), (2, .int (nI 0)), (0, .ref (α 0)), (1, .int (nI x))]) dL_holds_18 (by decide) rfl ?_
  refine r_iload_n C (i := 1) 6 dL_holds_20 rfl rfl ?_
  refine r_aload_n C (i := 0) 5 dL_holds_21 rfl rfl ?_
  refine r_iconst C dL_holds_22 ki_2 ?_
  refine r_iconst C dL_holds_23 ki_1 ?_
  refine r_iconst C dL_holds_24 ki_0 ?_
  refine r_iconst C dL_holds_25 ki_0 ?_
  refine Ca.on hB.2.2.2 hB.2.1 (j := 0) (K := 0) (rest := [.int (nI x)]) (by omega) (cl_about_1 hst hA2  ).l lk_L_call w_2_41 dL_holds_26 rfl ⟨by decide, by decide⟩ (Nat.le_of_ble_eq_true rfl) ?_
  rintro _ w3 ⟨rfl, hA4⟩
  show Ω 0 w3 [(6, .int (nI (sS σ))), (5, .int (nI 0)), (4, .int (nI 0)), (3, .int (nI 0)), (2, .int (nI 0)), (0, .ref (α 0)), (1, .int (nI x))] [.int (nI (sA σ)), .int (nI x)] 29
  refine r_irem (v := nI (x % (sA σ))) C dL_holds_29 (v_nz (by omega) (by omega)) (v_rem (by omega) (by omega) (by omega)) ?_
  obtain ⟨a, ha, hae⟩ : ∃ a, a < sA σ ∧ x % sA σ = a := ⟨_, Nat.mod_lt _ (by omega), rfl⟩
  refine r_st (st' := [.int (nI a)]) (by rw [show x % (sA σ) = a from hae]) ?_
  refine r_istore C (lv' := [(7, .int (nI a)), (6, .int (nI (sS σ))), (5, .int (nI 0)), (4, .int (nI 0)), (3, .int (nI 0)), (2, .int (nI 0)), (0, .ref (α 0)), (1, .int (nI x))]) dL_holds_30 (by decide) rfl ?_
  refine r_iconst C dL_holds_32 ki_m1 ?_
  refine r_istore C (lv' := [(8, .int (mI 0)), (7, .int (nI a)), (6, .int (nI (sS σ))), (5, .int (nI 0)), (4, .int (nI 0)), (3, .int (nI 0)), (2, .int (nI 0)), (0, .ref (α 0)), (1, .int (nI x))]) dL_holds_33 (by decide) rfl ?_
  refine r_iconst C dL_holds_35 ki_m1 ?_
  refine r_istore C (lv' := [(9, .int (mI 0)), (8, .int (mI 0)), (7, .int (nI a)), (6, .int (nI (sS σ))), (5, .int (nI 0)), (4, .int (nI 0)), (3, .int (nI 0)), (2, .int (nI 0)), (0, .ref (α 0)), (1, .int (nI x))]) dL_holds_36 (by decide) rfl ?_
  refine r_iconst C dL_holds_38 ki_0 ?_
  refine r_istore C (lv' := [(10, .int (nI 0)), (9, .int (mI 0)), (8, .int (mI 0)), (7, .int (nI a)), (6, .int (nI (sS σ))), (5, .int (nI 0)), (4, .int (nI 0)), (3, .int (nI 0)), (2, .int (nI 0)), (0, .ref (α 0)), (1, .int (nI x))]) dL_holds_39 (by decide) rfl ?_
  refine r_iload C (i := 6) 4 dL_holds_41 rfl ?_
  refine r_bipush C dL_holds_43 kb_20 ?_
  refine r_icmp_gtF C (tgt := 52) dL_holds_45 (by decide) (fun z => ((by omega) : ¬ (20 < sS σ)) ((c_ltNN (by omega) (by omega)).mp z)) ?_
  refine r_iconst C dL_holds_48 ki_1 ?_
  refine r_goto C 53 dL_holds_49 (by decide) ?_
  refine r_istore C (lv' := [(11, .int (nI 1)), (10, .int (nI 0)), (9, .int (mI 0)), (8, .int (mI 0)), (7, .int (nI a)), (6, .int (nI (sS σ))), (5, .int (nI 0)), (4, .int (nI 0)), (3, .int (nI 0)), (2, .int (nI 0)), (0, .ref (α 0)), (1, .int (nI x))]) dL_holds_53 (by decide) rfl ?_
  refine r_iconst C dL_holds_55 ki_0 ?_
  refine r_istore C (lv' := [(12, .int (nI 0)), (11, .int (nI 1)), (10, .int (nI 0)), (9, .int (mI 0)), (8, .int (mI 0)), (7, .int (nI a)), (6, .int (nI (sS σ))), (5, .int (nI 0)), (4, .int (nI 0)), (3, .int (nI 0)), (2, .int (nI 0)), (0, .ref (α 0)), (1, .int (nI x))]) dL_holds_56 (by decide) rfl ?_
  have loop58_6 : ∀ (dd9 : Nat) (n : Nat) (d : Nat) (t : Nat) (nn : Nat) (fv : Nat) (lv : Nat) (wL50 : va_W), 20 - n < dd9 → (n ≤ 20) → (d = dkS σ n) → (t = tkS σ n) → (nn = pcN σ a n) → (fv = pfN σ a n) → (lv = plN σ a n) → (Ar E α σ hs cnt ks kd wL50) → Ω 0 wL50 [(12, .int (nI n)), (11, .int (nI 1)), (10, .int (nI nn)), (9, .int (mI lv)), (8, .int (mI fv)), (7, .int (nI a)), (6, .int (nI (sS σ))), (5, .int (nI 0)), (4, .int (nI 0)), (3, .int (nI t)), (2, .int (nI d)), (0, .ref (α 0)), (1, .int (nI x))] [] 58 := by
    intro dd9
    induction dd9 with
    | zero => intro n d t nn fv lv wL50 hd; exact absurd hd (Nat.not_lt_zero _)
    | succ dd9 ih7 =>
      intro n d t nn fv lv wL50 hd hn hd9 ht9 hnn hfv hlv hAL50
      refine r_iload C (i := 12) 0 dL_holds_58 rfl ?_
      refine r_bipush C dL_holds_60 kb_20 ?_
      refine r_icmp_ge C (c9 := 20 ≤ n) 182 dL_holds_62 (by decide) (c_leNN (by omega) (by omega)) (fun h62_8 => ?_) (fun h62_8 => ?_)
      · obtain rfl : n = 20 := by omega
        refine r_iconst C dL_holds_182 ki_0 ?_
        refine r_istore C (lv' := [(12, .int (nI 0)), (11, .int (nI 1)), (10, .int (nI nn)), (9, .int (mI lv)), (8, .int (mI fv)), (7, .int (nI a)), (6, .int (nI (sS σ))), (5, .int (nI 0)), (4, .int (nI 0)), (3, .int (nI t)), (2, .int (nI d)), (0, .ref (α 0)), (1, .int (nI x))]) dL_holds_183 (by decide) rfl ?_
        have loop185_10 : ∀ (dd9 : Nat) (k : Nat) (uv : Nat) (wL90 : va_W), sS σ - k < dd9 → (k ≤ sS σ) → (uv = usN σ k) → (Ar E α σ hs cnt ks kd wL90) → Ω 0 wL90 [(12, .int (nI k)), (11, .int (nI 1)), (10, .int (nI nn)), (9, .int (mI lv)), (8, .int (mI fv)), (7, .int (nI a)), (6, .int (nI (sS σ))), (5, .int (nI uv)), (4, .int (nI 0)), (3, .int (nI t)), (2, .int (nI d)), (0, .ref (α 0)), (1, .int (nI x))] [] 185 := by
          intro dd9
          induction dd9 with
          | zero => intro k uv wL90 hd; exact absurd hd (Nat.not_lt_zero _)
          | succ dd9 ih11 =>
            intro k uv wL90 hd hk huv hAL90
            refine r_iload C (i := 12) 0 dL_holds_185 rfl ?_
            refine r_iload C (i := 6) 6 dL_holds_187 rfl ?_
            refine r_icmp_ge C (c9 := sS σ ≤ k) 303 dL_holds_189 (by decide) (c_leNN (by omega) (by omega)) (fun h189_12 => ?_) (fun h189_12 => ?_)
            · obtain rfl : k = sS σ := by omega
              refine r_aload_n C (i := 0) 11 dL_holds_303 rfl rfl ?_
              refine r_iconst C dL_holds_304 ki_2 ?_
              refine r_iconst C dL_holds_305 ki_0 ?_
              refine r_iconst C dL_holds_306 ki_0 ?_
              refine r_iconst C dL_holds_307 ki_0 ?_
              refine Ca.on hB.2.2.2 hB.2.1 (j := 0) (K := 0) (rest := []) (by omega) (cl_about_0 hst hAL90  ).l lk_L_call w_2_41 dL_holds_308 rfl ⟨by decide, by decide⟩ (Nat.le_of_ble_eq_true rfl) ?_
              rintro _ w13 ⟨rfl, hA14⟩
              show Ω 0 w13 [(12, .int (nI (sS σ))), (11, .int (nI 1)), (10, .int (nI nn)), (9, .int (mI lv)), (8, .int (mI fv)), (7, .int (nI a)), (6, .int (nI (sS σ))), (5, .int (nI uv)), (4, .int (nI 0)), (3, .int (nI t)), (2, .int (nI d)), (0, .ref (α 0)), (1, .int (nI x))] [.int (nI (sP σ))] 311
              refine r_istore C (lv' := [(12, .int (nI (sP σ))), (11, .int (nI 1)), (10, .int (nI nn)), (9, .int (mI lv)), (8, .int (mI fv)), (7, .int (nI a)), (6, .int (nI (sS σ))), (5, .int (nI uv)), (4, .int (nI 0)), (3, .int (nI t)), (2, .int (nI d)), (0, .ref (α 0)), (1, .int (nI x))]) dL_holds_311 (by decide) rfl ?_
              refine r_iconst C dL_holds_313 ki_0 ?_
              refine r_istore C (lv' := [(13, .int (nI 0)), (12, .int (nI (sP σ))), (11, .int (nI 1)), (10, .int (nI nn)), (9, .int (mI lv)), (8, .int (mI fv)), (7, .int (nI a)), (6, .int (nI (sS σ))), (5, .int (nI uv)), (4, .int (nI 0)), (3, .int (nI t)), (2, .int (nI d)), (0, .ref (α 0)), (1, .int (nI x))]) dL_holds_314 (by decide) rfl ?_
              have loop316_16 : ∀ (dd9 : Nat) (p : Nat) (pl : Nat) (wL150 : va_W), sP σ - p < dd9 → (p ≤ sP σ) → (pl = plS σ a p) → (Ar E α σ hs cnt ks kd wL150) → Ω 0 wL150 [(13, .int (nI p)), (12, .int (nI (sP σ))), (11, .int (nI 1)), (10, .int (nI nn)), (9, .int (mI lv)), (8, .int (mI fv)), (7, .int (nI a)), (6, .int (nI (sS σ))), (5, .int (nI uv)), (4, .int (nI pl)), (3, .int (nI t)), (2, .int (nI d)), (0, .ref (α 0)), (1, .int (nI x))] [] 316 := by
                intro dd9
                induction dd9 with
                | zero => intro p pl wL150 hd; exact absurd hd (Nat.not_lt_zero _)
                | succ dd9 ih17 =>
                  intro p pl wL150 hd hp hpl0 hAL150
                  refine r_iload C (i := 13) 0 dL_holds_316 rfl ?_
                  refine r_iload C (i := 12) 1 dL_holds_318 rfl ?_
                  refine r_icmp_ge C (c9 := sP σ ≤ p) 483 dL_holds_320 (by decide) (c_leNN (by omega) (by omega)) (fun h320_18 => ?_) (fun h320_18 => ?_)
                  · obtain rfl : p = sP σ := by omega
                    have hpq := pl_pc (σ := σ) a
                    have hun := un_all (σ := σ) 20
                    have hds := dkS_le σ 20
                    have hts := tkS_le hW (Nat.le_refl 20)
                    have hus := usN_le σ (sS σ)
                    have hpc := pcN_le σ a 20
                    have hpfl := pfN_le σ a 20
                    have hpll := plN_le σ a 20
                    have hpa := pa_all (σ := σ) a 20
                    have hpal := paN_lt hW a 20
                    have htg := tg_all (σ := σ) a 20
                    have hunl := unlN_le σ 20
                    refine r_aload_n C (i := 0) 12 dL_holds_483 rfl rfl ?_
                    refine r_iconst C dL_holds_484 ki_2 ?_
                    refine r_iconst C dL_holds_485 ki_5 ?_
                    refine r_iconst C dL_holds_486 ki_0 ?_
                    refine r_iconst C dL_holds_487 ki_0 ?_
                    refine Ca.on hB.2.2.2 hB.2.1 (j := 0) (K := 0) (rest := []) (by omega) (cl_about_5 hst hAL150  ).l lk_L_call w_2_41 dL_holds_488 rfl ⟨by decide, by decide⟩ (Nat.le_of_ble_eq_true rfl) ?_
                    rintro _ w19 ⟨rfl, hA20⟩
                    show Ω 0 w19 [(13, .int (nI (sP σ))), (12, .int (nI (sP σ))), (11, .int (nI 1)), (10, .int (nI nn)), (9, .int (mI lv)), (8, .int (mI fv)), (7, .int (nI a)), (6, .int (nI (sS σ))), (5, .int (nI uv)), (4, .int (nI pl)), (3, .int (nI t)), (2, .int (nI d)), (0, .ref (α 0)), (1, .int (nI x))] [.int (nI (unlN σ 20))] 491
                    refine r_istore C (lv' := [(13, .int (nI (unlN σ 20))), (12, .int (nI (sP σ))), (11, .int (nI 1)), (10, .int (nI nn)), (9, .int (mI lv)), (8, .int (mI fv)), (7, .int (nI a)), (6, .int (nI (sS σ))), (5, .int (nI uv)), (4, .int (nI pl)), (3, .int (nI t)), (2, .int (nI d)), (0, .ref (α 0)), (1, .int (nI x))]) dL_holds_491 (by decide) rfl ?_
                    refine r_iload C (i := 11) 2 dL_holds_493 rfl ?_
                    refine r_if_eqF C (y := 0) (tgt := 672) dL_holds_495 (by decide) (fun z => ((by decide) : ¬ (1 = 0)) ((z_eqN (by omega)).mp z)) ?_
                    refine r_aload_n C (i := 0) 12 dL_holds_498 rfl rfl ?_
                    refine r_iconst C dL_holds_499 ki_2 ?_
                    refine r_iconst C dL_holds_500 ki_3 ?_
                    refine r_iconst C dL_holds_501 ki_0 ?_
                    refine r_iconst C dL_holds_502 ki_0 ?_
                    refine Ca.on hB.2.2.2 hB.2.1 (j := 0) (K := 0) (rest := []) (by omega) (cl_about_3 hst hA20  ).l lk_L_call w_2_41 dL_holds_503 rfl ⟨by decide, by decide⟩ (Nat.le_of_ble_eq_true rfl) ?_
                    rintro _ w21 ⟨rfl, hA22⟩
                    show Ω 0 w21 [(13, .int (nI (unlN σ 20))), (12, .int (nI (sP σ))), (11, .int (nI 1)), (10, .int (nI nn)), (9, .int (mI lv)), (8, .int (mI fv)), (7, .int (nI a)), (6, .int (nI (sS σ))), (5, .int (nI uv)), (4, .int (nI pl)), (3, .int (nI t)), (2, .int (nI d)), (0, .ref (α 0)), (1, .int (nI x))] [.int (nI (dkS σ 20))] 506
                    refine r_iload_n C (i := 2) 11 dL_holds_506 rfl rfl ?_
                    refine r_icmp_neF C (tgt := 672) dL_holds_507 (by decide) (fun z => ((by omega) : ¬ (dkS σ 20 ≠ d)) ((c_neNN (by omega) (by omega)).mp z)) ?_
                    refine r_aload_n C (i := 0) 12 dL_holds_510 rfl rfl ?_
                    refine r_iconst C dL_holds_511 ki_2 ?_
                    refine r_iconst C dL_holds_512 ki_4 ?_
                    refine r_iconst C dL_holds_513 ki_0 ?_
                    refine r_iconst C dL_holds_514 ki_0 ?_
                    refine Ca.on hB.2.2.2 hB.2.1 (j := 0) (K := 0) (rest := []) (by omega) (cl_about_4 hst hA22  ).l lk_L_call w_2_41 dL_holds_515 rfl ⟨by decide, by decide⟩ (Nat.le_of_ble_eq_true rfl) ?_
                    rintro _ w23 ⟨rfl, hA24⟩
                    show Ω 0 w23 [(13, .int (nI (unlN σ 20))), (12, .int (nI (sP σ))), (11, .int (nI 1)), (10, .int (nI nn)), (9, .int (mI lv)), (8, .int (mI fv)), (7, .int (nI a)), (6, .int (nI (sS σ))), (5, .int (nI uv)), (4, .int (nI pl)), (3, .int (nI t)), (2, .int (nI d)), (0, .ref (α 0)), (1, .int (nI x))] [.int (nI (tkS σ 20))] 518
                    refine r_iload_n C (i := 3) 10 dL_holds_518 rfl rfl ?_
                    refine r_icmp_neF C (tgt := 672) dL_holds_519 (by decide) (fun z => ((by omega) : ¬ (tkS σ 20 ≠ t)) ((c_neNN (by omega) (by omega)).mp z)) ?_
                    refine r_aload_n C (i := 0) 12 dL_holds_522 rfl rfl ?_
                    refine r_iconst C dL_holds_523 ki_2 ?_
                    refine r_bipush C dL_holds_524 kb_6 ?_
                    refine r_iconst C dL_holds_526 ki_0 ?_
                    refine r_iconst C dL_holds_527 ki_0 ?_
                    refine Ca.on hB.2.2.2 hB.2.1 (j := 0) (K := 0) (rest := []) (by omega) (cl_about_6 hst hA24  ).l lk_L_call w_2_41 dL_holds_528 rfl ⟨by decide, by decide⟩ (Nat.le_of_ble_eq_true rfl) ?_
                    rintro _ w25 ⟨rfl, hA26⟩
                    show Ω 0 w25 [(13, .int (nI (unlN σ 20))), (12, .int (nI (sP σ))), (11, .int (nI 1)), (10, .int (nI nn)), (9, .int (mI lv)), (8, .int (mI fv)), (7, .int (nI a)), (6, .int (nI (sS σ))), (5, .int (nI uv)), (4, .int (nI pl)), (3, .int (nI t)), (2, .int (nI d)), (0, .ref (α 0)), (1, .int (nI x))] [.int (nI (usN σ (sS σ)))] 531
                    refine r_iload C (i := 5) 8 dL_holds_531 rfl ?_
                    refine r_icmp_neF C (tgt := 672) dL_holds_533 (by decide) (fun z => ((by omega) : ¬ (usN σ (sS σ) ≠ uv)) ((c_neNN (by omega) (by omega)).mp z)) ?_
                    refine r_iload C (i := 13) 0 dL_holds_536 rfl ?_
                    refine r_bipush C dL_holds_538 kb_20 ?_
                    refine r_iload_n C (i := 2) 11 dL_holds_540 rfl rfl ?_
                    refine r_isub (v := nI (20 - d)) C dL_holds_541 (v_sub (by omega)) ?_
                    refine r_icmp_gtF C (tgt := 672) dL_holds_542 (by decide) (fun z => ((by omega) : ¬ (20 - d < unlN σ 20)) ((c_ltNN (by omega) (by omega)).mp z)) ?_
                    refine r_iload C (i := 13) 0 dL_holds_545 rfl ?_
                    refine r_if_ne C (y := 0) (c9 := unlN σ 20 ≠ 0) 554 dL_holds_547 (by decide) (z_neN (by omega)) (fun h547_27 => ?_) (fun h547_27 => ?_)
                    · refine r_iconst C dL_holds_554 ki_0 ?_
                      refine r_iload_n C (i := 2) 11 dL_holds_555 rfl rfl ?_
                      refine r_bipush C dL_holds_556 kb_20 ?_
                      refine r_icmp_neT C 565 dL_holds_558 (by decide) ((c_neNN (by omega) (by omega)).mpr (by omega)) ?_
                      refine r_iconst C dL_holds_565 ki_0 ?_
                      refine r_icmp_neF C (tgt := 672) dL_holds_566 (by decide) (fun z => ((by decide) : ¬ (0 ≠ 0)) ((c_neNN (by omega) (by omega)).mp z)) ?_
                      refine r_aload_n C (i := 0) 12 dL_holds_569 rfl rfl ?_
                      refine r_bipush C dL_holds_570 kb_6 ?_
                      refine r_iload C (i := 7) 6 dL_holds_572 rfl ?_
                      refine r_iconst C dL_holds_574 ki_1 ?_
                      refine r_iconst C dL_holds_575 ki_0 ?_
                      refine Ca.on hB.2.2.2 hB.2.1 (j := 0) (K := 0) (rest := []) (by omega) (cl_actor_1 hst hA26 (a := a) (ha := (by omega))).l lk_L_call w_2_41 dL_holds_576 rfl ⟨by decide, by decide⟩ (Nat.le_of_ble_eq_true rfl) ?_
                      rintro _ w28 ⟨rfl, hA29⟩
                      show Ω 0 w28 [(13, .int (nI (unlN σ 20))), (12, .int (nI (sP σ))), (11, .int (nI 1)), (10, .int (nI nn)), (9, .int (mI lv)), (8, .int (mI fv)), (7, .int (nI a)), (6, .int (nI (sS σ))), (5, .int (nI uv)), (4, .int (nI pl)), (3, .int (nI t)), (2, .int (nI d)), (0, .ref (α 0)), (1, .int (nI x))] [.int (nI (pcN σ a 20))] 579
                      refine r_iload C (i := 10) 3 dL_holds_579 rfl ?_
                      refine r_icmp_neF C (tgt := 672) dL_holds_581 (by decide) (fun z => ((by omega) : ¬ (pcN σ a 20 ≠ nn)) ((c_neNN (by omega) (by omega)).mp z)) ?_
                      refine r_iload C (i := 4) 9 dL_holds_584 rfl ?_
                      refine r_iload C (i := 10) 3 dL_holds_586 rfl ?_
                      refine r_icmp_neF C (tgt := 672) dL_holds_588 (by decide) (fun z => ((by omega) : ¬ (pl ≠ nn)) ((c_neNN (by omega) (by omega)).mp z)) ?_
                      refine r_aload_n C (i := 0) 12 dL_holds_591 rfl rfl ?_
                      refine r_bipush C dL_holds_592 kb_6 ?_
                      refine r_iload C (i := 7) 6 dL_holds_594 rfl ?_
                      refine r_iconst C dL_holds_596 ki_2 ?_
                      refine r_iconst C dL_holds_597 ki_0 ?_
                      refine Ca.on hB.2.2.2 hB.2.1 (j := 0) (K := 0) (rest := []) (by omega) (cl_actor_2 hst hA29 (a := a) (ha := (by omega))).l lk_L_call w_2_41 dL_holds_598 rfl ⟨by decide, by decide⟩ (Nat.le_of_ble_eq_true rfl) ?_
                      rintro _ w30 ⟨rfl, hA31⟩
                      show Ω 0 w30 [(13, .int (nI (unlN σ 20))), (12, .int (nI (sP σ))), (11, .int (nI 1)), (10, .int (nI nn)), (9, .int (mI lv)), (8, .int (mI fv)), (7, .int (nI a)), (6, .int (nI (sS σ))), (5, .int (nI uv)), (4, .int (nI pl)), (3, .int (nI t)), (2, .int (nI d)), (0, .ref (α 0)), (1, .int (nI x))] [.int (mI (pfN σ a 20))] 601
                      refine r_iload C (i := 8) 5 dL_holds_601 rfl ?_
                      refine r_icmp_neF C (tgt := 672) dL_holds_603 (by decide) (fun z => ((by omega) : ¬ (pfN σ a 20 ≠ fv)) ((c_neMM (by omega) (by omega)).mp z)) ?_
                      refine r_aload_n C (i := 0) 12 dL_holds_606 rfl rfl ?_
                      refine r_bipush C dL_holds_607 kb_6 ?_
                      refine r_iload C (i := 7) 6 dL_holds_609 rfl ?_
                      refine r_iconst C dL_holds_611 ki_3 ?_
                      refine r_iconst C dL_holds_612 ki_0 ?_
                      refine Ca.on hB.2.2.2 hB.2.1 (j := 0) (K := 0) (rest := []) (by omega) (cl_actor_3 hst hA31 (a := a) (ha := (by omega))).l lk_L_call w_2_41 dL_holds_613 rfl ⟨by decide, by decide⟩ (Nat.le_of_ble_eq_true rfl) ?_
                      rintro _ w32 ⟨rfl, hA33⟩
                      show Ω 0 w32 [(13, .int (nI (unlN σ 20))), (12, .int (nI (sP σ))), (11, .int (nI 1)), (10, .int (nI nn)), (9, .int (mI lv)), (8, .int (mI fv)), (7, .int (nI a)), (6, .int (nI (sS σ))), (5, .int (nI uv)), (4, .int (nI pl)), (3, .int (nI t)), (2, .int (nI d)), (0, .ref (α 0)), (1, .int (nI x))] [.int (mI (plN σ a 20))] 616
                      refine r_iload C (i := 9) 4 dL_holds_616 rfl ?_
                      refine r_icmp_neF C (tgt := 672) dL_holds_618 (by decide) (fun z => ((by omega) : ¬ (plN σ a 20 ≠ lv)) ((c_neMM (by omega) (by omega)).mp z)) ?_
                      refine r_aload_n C (i := 0) 12 dL_holds_621 rfl rfl ?_
                      refine r_bipush C dL_holds_622 kb_19 ?_
                      refine r_iload C (i := 7) 6 dL_holds_624 rfl ?_
                      refine r_iload C (i := 7) 6 dL_holds_626 rfl ?_
                      refine r_iconst C dL_holds_628 ki_0 ?_
                      refine Ca.on hB.2.2.2 hB.2.1 (j := 0) (K := 0) (rest := []) (by omega) (cl_together hst hA33 (a := a) (c := a) (ha := (by omega)) (hc := (by omega))).l lk_L_call w_2_41 dL_holds_629 rfl ⟨by decide, by decide⟩ (Nat.le_of_ble_eq_true rfl) ?_
                      rintro _ w34 ⟨rfl, hA35⟩
                      show Ω 0 w34 [(13, .int (nI (unlN σ 20))), (12, .int (nI (sP σ))), (11, .int (nI 1)), (10, .int (nI nn)), (9, .int (mI lv)), (8, .int (mI fv)), (7, .int (nI a)), (6, .int (nI (sS σ))), (5, .int (nI uv)), (4, .int (nI pl)), (3, .int (nI t)), (2, .int (nI d)), (0, .ref (α 0)), (1, .int (nI x))] [.int (nI (tgN σ a a 20))] 632
                      refine r_iload C (i := 10) 3 dL_holds_632 rfl ?_
                      refine r_icmp_neF C (tgt := 672) dL_holds_634 (by decide) (fun z => ((by omega) : ¬ (tgN σ a a 20 ≠ nn)) ((c_neNN (by omega) (by omega)).mp z)) ?_
                      refine r_aload_n C (i := 0) 12 dL_holds_637 rfl rfl ?_
                      refine r_bipush C dL_holds_638 kb_6 ?_
                      refine r_iload C (i := 7) 6 dL_holds_640 rfl ?_
                      refine r_iconst C dL_holds_642 ki_4 ?_
                      refine r_iconst C dL_holds_643 ki_0 ?_
                      refine Ca.on hB.2.2.2 hB.2.1 (j := 0) (K := 0) (rest := []) (by omega) (cl_actor_4 hst hA35 (a := a) (ha := (by omega))).l lk_L_call w_2_41 dL_holds_644 rfl ⟨by decide, by decide⟩ (Nat.le_of_ble_eq_true rfl) ?_
                      rintro _ w36 ⟨rfl, hA37⟩
                      show Ω 0 w36 [(13, .int (nI (unlN σ 20))), (12, .int (nI (sP σ))), (11, .int (nI 1)), (10, .int (nI nn)), (9, .int (mI lv)), (8, .int (mI fv)), (7, .int (nI a)), (6, .int (nI (sS σ))), (5, .int (nI uv)), (4, .int (nI pl)), (3, .int (nI t)), (2, .int (nI d)), (0, .ref (α 0)), (1, .int (nI x))] [.int (nI (paN σ a 20))] 647
                      refine r_if_ne C (y := 0) (c9 := paN σ a 20 ≠ 0) 654 dL_holds_647 (by decide) (z_neN (by omega)) (fun h647_38 => ?_) (fun h647_38 => ?_)
                      · refine r_iconst C dL_holds_654 ki_0 ?_
                        refine r_iload C (i := 10) 3 dL_holds_655 rfl ?_
                        refine r_if_neT C (y := 0) 664 dL_holds_657 (by decide) ((z_neN (by omega)).mpr (by omega)) ?_
                        refine r_iconst C dL_holds_664 ki_0 ?_
                        refine r_icmp_neF C (tgt := 672) dL_holds_665 (by decide) (fun z => ((by decide) : ¬ (0 ≠ 0)) ((c_neNN (by omega) (by omega)).mp z)) ?_
                        refine r_iconst C dL_holds_668 ki_1 ?_
                        refine r_goto C 673 dL_holds_669 (by decide) ?_
                        exact RT.1 _ _ _ _ _ dL_holds_673 rfl nar_1 (⟨rfl, hA37⟩) (hA37.fst.trans hA.fst.symm)
                      · refine r_iconst C dL_holds_650 ki_1 ?_
                        refine r_goto C 655 dL_holds_651 (by decide) ?_
                        refine r_iload C (i := 10) 3 dL_holds_655 rfl ?_
                        refine r_if_neF C (y := 0) (tgt := 664) dL_holds_657 (by decide) (fun z => ((by omega) : ¬ (nn ≠ 0)) ((z_neN (by omega)).mp z)) ?_
                        refine r_iconst C dL_holds_660 ki_1 ?_
                        refine r_goto C 665 dL_holds_661 (by decide) ?_
                        refine r_icmp_neF C (tgt := 672) dL_holds_665 (by decide) (fun z => ((by decide) : ¬ (1 ≠ 1)) ((c_neNN (by omega) (by omega)).mp z)) ?_
                        refine r_iconst C dL_holds_668 ki_1 ?_
                        refine r_goto C 673 dL_holds_669 (by decide) ?_
                        exact RT.1 _ _ _ _ _ dL_holds_673 rfl nar_1 (⟨rfl, hA37⟩) (hA37.fst.trans hA.fst.symm)
                    · refine r_iconst C dL_holds_550 ki_1 ?_
                      refine r_goto C 555 dL_holds_551 (by decide) ?_
                      refine r_iload_n C (i := 2) 11 dL_holds_555 rfl rfl ?_
                      refine r_bipush C dL_holds_556 kb_20 ?_
                      refine r_icmp_neF C (tgt := 565) dL_holds_558 (by decide) (fun z => ((by omega) : ¬ (d ≠ 20)) ((c_neNN (by omega) (by omega)).mp z)) ?_
                      refine r_iconst C dL_holds_561 ki_1 ?_
                      refine r_goto C 566 dL_holds_562 (by decide) ?_
                      refine r_icmp_neF C (tgt := 672) dL_holds_566 (by decide) (fun z => ((by decide) : ¬ (1 ≠ 1)) ((c_neNN (by omega) (by omega)).mp z)) ?_
                      refine r_aload_n C (i := 0) 12 dL_holds_569 rfl rfl ?_
                      refine r_bipush C dL_holds_570 kb_6 ?_
                      refine r_iload C (i := 7) 6 dL_holds_572 rfl ?_
                      refine r_iconst C dL_holds_574 ki_1 ?_
                      refine r_iconst C dL_holds_575 ki_0 ?_
                      refine Ca.on hB.2.2.2 hB.2.1 (j := 0) (K := 0) (rest := []) (by omega) (cl_actor_1 hst hA26 (a := a) (ha := (by omega))).l lk_L_call w_2_41 dL_holds_576 rfl ⟨by decide, by decide⟩ (Nat.le_of_ble_eq_true rfl) ?_
                      rintro _ w39 ⟨rfl, hA40⟩
                      show Ω 0 w39 [(13, .int (nI (unlN σ 20))), (12, .int (nI (sP σ))), (11, .int (nI 1)), (10, .int (nI nn)), (9, .int (mI lv)), (8, .int (mI fv)), (7, .int (nI a)), (6, .int (nI (sS σ))), (5, .int (nI uv)), (4, .int (nI pl)), (3, .int (nI t)), (2, .int (nI d)), (0, .ref (α 0)), (1, .int (nI x))] [.int (nI (pcN σ a 20))] 579
                      refine r_iload C (i := 10) 3 dL_holds_579 rfl ?_
                      refine r_icmp_neF C (tgt := 672) dL_holds_581 (by decide) (fun z => ((by omega) : ¬ (pcN σ a 20 ≠ nn)) ((c_neNN (by omega) (by omega)).mp z)) ?_
                      refine r_iload C (i := 4) 9 dL_holds_584 rfl ?_
                      refine r_iload C (i := 10) 3 dL_holds_586 rfl ?_
                      refine r_icmp_neF C (tgt := 672) dL_holds_588 (by decide) (fun z => ((by omega) : ¬ (pl ≠ nn)) ((c_neNN (by omega) (by omega)).mp z)) ?_
                      refine r_aload_n C (i := 0) 12 dL_holds_591 rfl rfl ?_
                      refine r_bipush C dL_holds_592 kb_6 ?_
                      refine r_iload C (i := 7) 6 dL_holds_594 rfl ?_
                      refine r_iconst C dL_holds_596 ki_2 ?_
                      refine r_iconst C dL_holds_597 ki_0 ?_
                      refine Ca.on hB.2.2.2 hB.2.1 (j := 0) (K := 0) (rest := []) (by omega) (cl_actor_2 hst hA40 (a := a) (ha := (by omega))).l lk_L_call w_2_41 dL_holds_598 rfl ⟨by decide, by decide⟩ (Nat.le_of_ble_eq_true rfl) ?_
                      rintro _ w41 ⟨rfl, hA42⟩
                      show Ω 0 w41 [(13, .int (nI (unlN σ 20))), (12, .int (nI (sP σ))), (11, .int (nI 1)), (10, .int (nI nn)), (9, .int (mI lv)), (8, .int (mI fv)), (7, .int (nI a)), (6, .int (nI (sS σ))), (5, .int (nI uv)), (4, .int (nI pl)), (3, .int (nI t)), (2, .int (nI d)), (0, .ref (α 0)), (1, .int (nI x))] [.int (mI (pfN σ a 20))] 601
                      refine r_iload C (i := 8) 5 dL_holds_601 rfl ?_
                      refine r_icmp_neF C (tgt := 672) dL_holds_603 (by decide) (fun z => ((by omega) : ¬ (pfN σ a 20 ≠ fv)) ((c_neMM (by omega) (by omega)).mp z)) ?_
                      refine r_aload_n C (i := 0) 12 dL_holds_606 rfl rfl ?_
                      refine r_bipush C dL_holds_607 kb_6 ?_
                      refine r_iload C (i := 7) 6 dL_holds_609 rfl ?_
                      refine r_iconst C dL_holds_611 ki_3 ?_
                      refine r_iconst C dL_holds_612 ki_0 ?_
                      refine Ca.on hB.2.2.2 hB.2.1 (j := 0) (K := 0) (rest := []) (by omega) (cl_actor_3 hst hA42 (a := a) (ha := (by omega))).l lk_L_call w_2_41 dL_holds_613 rfl ⟨by decide, by decide⟩ (Nat.le_of_ble_eq_true rfl) ?_
                      rintro _ w43 ⟨rfl, hA44⟩
                      show Ω 0 w43 [(13, .int (nI (unlN σ 20))), (12, .int (nI (sP σ))), (11, .int (nI 1)), (10, .int (nI nn)), (9, .int (mI lv)), (8, .int (mI fv)), (7, .int (nI a)), (6, .int (nI (sS σ))), (5, .int (nI uv)), (4, .int (nI pl)), (3, .int (nI t)), (2, .int (nI d)), (0, .ref (α 0)), (1, .int (nI x))] [.int (mI (plN σ a 20))] 616
                      refine r_iload C (i := 9) 4 dL_holds_616 rfl ?_
                      refine r_icmp_neF C (tgt := 672) dL_holds_618 (by decide) (fun z => ((by omega) : ¬ (plN σ a 20 ≠ lv)) ((c_neMM (by omega) (by omega)).mp z)) ?_
                      refine r_aload_n C (i := 0) 12 dL_holds_621 rfl rfl ?_
                      refine r_bipush C dL_holds_622 kb_19 ?_
                      refine r_iload C (i := 7) 6 dL_holds_624 rfl ?_
                      refine r_iload C (i := 7) 6 dL_holds_626 rfl ?_
                      refine r_iconst C dL_holds_628 ki_0 ?_
                      refine Ca.on hB.2.2.2 hB.2.1 (j := 0) (K := 0) (rest := []) (by omega) (cl_together hst hA44 (a := a) (c := a) (ha := (by omega)) (hc := (by omega))).l lk_L_call w_2_41 dL_holds_629 rfl ⟨by decide, by decide⟩ (Nat.le_of_ble_eq_true rfl) ?_
                      rintro _ w45 ⟨rfl, hA46⟩
                      show Ω 0 w45 [(13, .int (nI (unlN σ 20))), (12, .int (nI (sP σ))), (11, .int (nI 1)), (10, .int (nI nn)), (9, .int (mI lv)), (8, .int (mI fv)), (7, .int (nI a)), (6, .int (nI (sS σ))), (5, .int (nI uv)), (4, .int (nI pl)), (3, .int (nI t)), (2, .int (nI d)), (0, .ref (α 0)), (1, .int (nI x))] [.int (nI (tgN σ a a 20))] 632
                      refine r_iload C (i := 10) 3 dL_holds_632 rfl ?_
                      refine r_icmp_neF C (tgt := 672) dL_holds_634 (by decide) (fun z => ((by omega) : ¬ (tgN σ a a 20 ≠ nn)) ((c_neNN (by omega) (by omega)).mp z)) ?_
                      refine r_aload_n C (i := 0) 12 dL_holds_637 rfl rfl ?_
                      refine r_bipush C dL_holds_638 kb_6 ?_
                      refine r_iload C (i := 7) 6 dL_holds_640 rfl ?_
                      refine r_iconst C dL_holds_642 ki_4 ?_
                      refine r_iconst C dL_holds_643 ki_0 ?_
                      refine Ca.on hB.2.2.2 hB.2.1 (j := 0) (K := 0) (rest := []) (by omega) (cl_actor_4 hst hA46 (a := a) (ha := (by omega))).l lk_L_call w_2_41 dL_holds_644 rfl ⟨by decide, by decide⟩ (Nat.le_of_ble_eq_true rfl) ?_
                      rintro _ w47 ⟨rfl, hA48⟩
                      show Ω 0 w47 [(13, .int (nI (unlN σ 20))), (12, .int (nI (sP σ))), (11, .int (nI 1)), (10, .int (nI nn)), (9, .int (mI lv)), (8, .int (mI fv)), (7, .int (nI a)), (6, .int (nI (sS σ))), (5, .int (nI uv)), (4, .int (nI pl)), (3, .int (nI t)), (2, .int (nI d)), (0, .ref (α 0)), (1, .int (nI x))] [.int (nI (paN σ a 20))] 647
                      refine r_if_ne C (y := 0) (c9 := paN σ a 20 ≠ 0) 654 dL_holds_647 (by decide) (z_neN (by omega)) (fun h647_49 => ?_) (fun h647_49 => ?_)
                      · refine r_iconst C dL_holds_654 ki_0 ?_
                        refine r_iload C (i := 10) 3 dL_holds_655 rfl ?_
                        refine r_if_neT C (y := 0) 664 dL_holds_657 (by decide) ((z_neN (by omega)).mpr (by omega)) ?_
                        refine r_iconst C dL_holds_664 ki_0 ?_
                        refine r_icmp_neF C (tgt := 672) dL_holds_665 (by decide) (fun z => ((by decide) : ¬ (0 ≠ 0)) ((c_neNN (by omega) (by omega)).mp z)) ?_
                        refine r_iconst C dL_holds_668 ki_1 ?_
                        refine r_goto C 673 dL_holds_669 (by decide) ?_
                        exact RT.1 _ _ _ _ _ dL_holds_673 rfl nar_1 (⟨rfl, hA48⟩) (hA48.fst.trans hA.fst.symm)
                      · refine r_iconst C dL_holds_650 ki_1 ?_
                        refine r_goto C 655 dL_holds_651 (by decide) ?_
                        refine r_iload C (i := 10) 3 dL_holds_655 rfl ?_
                        refine r_if_neF C (y := 0) (tgt := 664) dL_holds_657 (by decide) (fun z => ((by omega) : ¬ (nn ≠ 0)) ((z_neN (by omega)).mp z)) ?_
                        refine r_iconst C dL_holds_660 ki_1 ?_
                        refine r_goto C 665 dL_holds_661 (by decide) ?_
                        refine r_icmp_neF C (tgt := 672) dL_holds_665 (by decide) (fun z => ((by decide) : ¬ (1 ≠ 1)) ((c_neNN (by omega) (by omega)).mp z)) ?_
                        refine r_iconst C dL_holds_668 ki_1 ?_
                        refine r_goto C 673 dL_holds_669 (by decide) ?_
                        exact RT.1 _ _ _ _ _ dL_holds_673 rfl nar_1 (⟨rfl, hA48⟩) (hA48.fst.trans hA.fst.symm)
                  · have hpp : p < sP σ := by omega
                    have hlg := lg_all (σ := σ) p a 20
                    have hfl := fdC_le σ p a 20
                    refine r_iload C (i := 11) 2 dL_holds_323 rfl ?_
                    refine r_if_eqF C (y := 0) (tgt := 483) dL_holds_325 (by decide) (fun z => ((by decide) : ¬ (1 = 0)) ((z_eqN (by omega)).mp z)) ?_
                    refine r_iconst C dL_holds_328 ki_0 ?_
                    refine r_istore C (lv' := [(14, .int (nI 0)), (13, .int (nI p)), (12, .int (nI (sP σ))), (11, .int (nI 1)), (10, .int (nI nn)), (9, .int (mI lv)), (8, .int (mI fv)), (7, .int (nI a)), (6, .int (nI (sS σ))), (5, .int (nI uv)), (4, .int (nI pl)), (3, .int (nI t)), (2, .int (nI d)), (0, .ref (α 0)), (1, .int (nI x))]) dL_holds_329 (by decide) rfl ?_
                    refine r_iconst C dL_holds_331 ki_m1 ?_
                    refine r_istore C (lv' := [(15, .int (mI 0)), (14, .int (nI 0)), (13, .int (nI p)), (12, .int (nI (sP σ))), (11, .int (nI 1)), (10, .int (nI nn)), (9, .int (mI lv)), (8, .int (mI fv)), (7, .int (nI a)), (6, .int (nI (sS σ))), (5, .int (nI uv)), (4, .int (nI pl)), (3, .int (nI t)), (2, .int (nI d)), (0, .ref (α 0)), (1, .int (nI x))]) dL_holds_332 (by decide) rfl ?_
                    refine r_aload_n C (i := 0) 14 dL_holds_334 rfl rfl ?_
                    refine r_bipush C dL_holds_335 kb_20 ?_
                    refine r_iload C (i := 13) 2 dL_holds_337 rfl ?_
                    refine r_iload C (i := 7) 8 dL_holds_339 rfl ?_
                    refine r_iconst C dL_holds_341 ki_0 ?_
                    refine Ca.on hB.2.2.2 hB.2.1 (j := 0) (K := 0) (rest := []) (by omega) (cl_longest hst hAL150 (a := a) (p := p) (hp := (by omega)) (ha := (by omega))).l lk_L_call w_2_41 dL_holds_342 rfl ⟨by decide, by decide⟩ (Nat.le_of_ble_eq_true rfl) ?_
                    rintro _ w50 ⟨rfl, hA51⟩
                    show Ω 0 w50 [(15, .int (mI 0)), (14, .int (nI 0)), (13, .int (nI p)), (12, .int (nI (sP σ))), (11, .int (nI 1)), (10, .int (nI nn)), (9, .int (mI lv)), (8, .int (mI fv)), (7, .int (nI a)), (6, .int (nI (sS σ))), (5, .int (nI uv)), (4, .int (nI pl)), (3, .int (nI t)), (2, .int (nI d)), (0, .ref (α 0)), (1, .int (nI x))] [.int (nI (lgB σ p a 20))] 345
                    refine r_istore C (lv' := [(16, .int (nI (lgB σ p a 20))), (15, .int (mI 0)), (14, .int (nI 0)), (13, .int (nI p)), (12, .int (nI (sP σ))), (11, .int (nI 1)), (10, .int (nI nn)), (9, .int (mI lv)), (8, .int (mI fv)), (7, .int (nI a)), (6, .int (nI (sS σ))), (5, .int (nI uv)), (4, .int (nI pl)), (3, .int (nI t)), (2, .int (nI d)), (0, .ref (α 0)), (1, .int (nI x))]) dL_holds_345 (by decide) rfl ?_
                    have loop347_53 : ∀ (dd9 : Nat) (k : Nat) (bv : Nat) (wL520 : va_W), fdC σ p a 20 + 1 - k < dd9 → (k ≤ fdC σ p a 20) → (∀ n, n < 20 → isPl σ p a n → fdC σ p a n = k → bv ≤ n) → (Ar E α σ hs cnt ks kd wL520) → Ω 0 wL520 [(16, .int (nI (lgB σ p a 20))), (15, .int (mI bv)), (14, .int (nI k)), (13, .int (nI p)), (12, .int (nI (sP σ))), (11, .int (nI 1)), (10, .int (nI nn)), (9, .int (mI lv)), (8, .int (mI fv)), (7, .int (nI a)), (6, .int (nI (sS σ))), (5, .int (nI uv)), (4, .int (nI pl)), (3, .int (nI t)), (2, .int (nI d)), (0, .ref (α 0)), (1, .int (nI x))] [] 347 := by
                      intro dd9
                      induction dd9 with
                      | zero => intro k bv wL520 hd; exact absurd hd (Nat.not_lt_zero _)
                      | succ dd9 ih54 =>
                        intro k bv wL520 hd hk hb hAL520
                        refine r_iload C (i := 11) 5 dL_holds_347 rfl ?_
                        refine r_if_eqF C (y := 0) (tgt := 428) dL_holds_349 (by decide) (fun z => ((by decide) : ¬ (1 = 0)) ((z_eqN (by omega)).mp z)) ?_
                        have hfnl : fnd σ p a k ≤ 20 := by unfold fnd; split <;> omega
                        refine r_aload_n C (i := 0) 15 dL_holds_352 rfl rfl ?_
                        refine r_bipush C dL_holds_353 kb_18 ?_
                        refine r_iload C (i := 13) 3 dL_holds_355 rfl ?_
                        refine r_iload C (i := 7) 9 dL_holds_357 rfl ?_
                        refine r_iload C (i := 14) 2 dL_holds_359 rfl ?_
                        refine Ca.on hB.2.2.2 hB.2.1 (j := 0) (K := 0) (rest := []) (by omega) (cl_find hst hAL520 (a := a) (k := k) (p := p) (hp := (by omega)) (ha := (by omega)) (hk := (by omega))).l lk_L_call w_2_41 dL_holds_361 rfl ⟨by decide, by decide⟩ (Nat.le_of_ble_eq_true rfl) ?_
                        rintro _ w55 ⟨rfl, hA56⟩
                        show Ω 0 w55 [(16, .int (nI (lgB σ p a 20))), (15, .int (mI bv)), (14, .int (nI k)), (13, .int (nI p)), (12, .int (nI (sP σ))), (11, .int (nI 1)), (10, .int (nI nn)), (9, .int (mI lv)), (8, .int (mI fv)), (7, .int (nI a)), (6, .int (nI (sS σ))), (5, .int (nI uv)), (4, .int (nI pl)), (3, .int (nI t)), (2, .int (nI d)), (0, .ref (α 0)), (1, .int (nI x))] [.int (mI (fnd σ p a k))] 364
                        refine r_iconst C dL_holds_364 ki_m1 ?_
                        refine r_icmp_eq C (c9 := fnd σ p a k = 0) 428 dL_holds_365 (by decide) (c_eqMM (by omega) (by omega)) (fun h365_57 => ?_) (fun h365_57 => ?_)
                        · have hke : k = fdC σ p a 20 := by
                            rcases Nat.lt_or_ge k (fdC σ p a 20) with z | z
                            · obtain ⟨n, -, -, -, e⟩ := fd_yes z; omega
                            · omega
                          refine r_iload C (i := 4) 12 dL_holds_428 rfl ?_
                          refine r_iload C (i := 14) 2 dL_holds_430 rfl ?_
                          refine r_iadd (v := nI (pl + k)) C dL_holds_432 (nI_add _ _) ?_
                          refine r_istore C (lv' := [(4, .int (nI (pl + k))), (16, .int (nI (lgB σ p a 20))), (15, .int (mI bv)), (14, .int (nI k)), (13, .int (nI p)), (12, .int (nI (sP σ))), (11, .int (nI 1)), (10, .int (nI nn)), (9, .int (mI lv)), (8, .int (mI fv)), (7, .int (nI a)), (6, .int (nI (sS σ))), (5, .int (nI uv)), (3, .int (nI t)), (2, .int (nI d)), (0, .ref (α 0)), (1, .int (nI x))]) dL_holds_433 (by decide) rfl ?_
                          refine r_iload C (i := 11) 6 dL_holds_435 rfl ?_
                          refine r_if_eqF C (y := 0) (tgt := 474) dL_holds_437 (by decide) (fun z => ((by decide) : ¬ (1 = 0)) ((z_eqN (by omega)).mp z)) ?_
                          refine r_iload C (i := 16) 1 dL_holds_440 rfl ?_
                          refine r_iload C (i := 14) 3 dL_holds_442 rfl ?_
                          refine r_icmp_gtF C (tgt := 474) dL_holds_444 (by decide) (fun z => ((by omega) : ¬ (k < lgB σ p a 20)) ((c_ltNN (by omega) (by omega)).mp z)) ?_
                          refine r_iload C (i := 16) 1 dL_holds_447 rfl ?_
                          refine r_if_ne C (y := 0) (c9 := lgB σ p a 20 ≠ 0) 456 dL_holds_449 (by decide) (z_neN (by omega)) (fun h449_58 => ?_) (fun h449_58 => ?_)
                          · refine r_iconst C dL_holds_456 ki_0 ?_
                            refine r_iload C (i := 14) 3 dL_holds_457 rfl ?_
                            refine r_if_neT C (y := 0) 466 dL_holds_459 (by decide) ((z_neN (by omega)).mpr (by omega)) ?_
                            refine r_iconst C dL_holds_466 ki_0 ?_
                            refine r_icmp_neF C (tgt := 474) dL_holds_467 (by decide) (fun z => ((by decide) : ¬ (0 ≠ 0)) ((c_neNN (by omega) (by omega)).mp z)) ?_
                            refine r_iconst C dL_holds_470 ki_1 ?_
                            refine r_goto C 475 dL_holds_471 (by decide) ?_
                            refine r_istore C (lv' := [(11, .int (nI 1)), (4, .int (nI (pl + k))), (16, .int (nI (lgB σ p a 20))), (15, .int (mI bv)), (14, .int (nI k)), (13, .int (nI p)), (12, .int (nI (sP σ))), (10, .int (nI nn)), (9, .int (mI lv)), (8, .int (mI fv)), (7, .int (nI a)), (6, .int (nI (sS σ))), (5, .int (nI uv)), (3, .int (nI t)), (2, .int (nI d)), (0, .ref (α 0)), (1, .int (nI x))]) dL_holds_475 (by decide) rfl ?_
                            refine r_iinc C (lv' := [(13, .int (nI (p + 1))), (11, .int (nI 1)), (4, .int (nI (pl + k))), (16, .int (nI (lgB σ p a 20))), (15, .int (mI bv)), (14, .int (nI k)), (12, .int (nI (sP σ))), (10, .int (nI nn)), (9, .int (mI lv)), (8, .int (mI fv)), (7, .int (nI a)), (6, .int (nI (sS σ))), (5, .int (nI uv)), (3, .int (nI t)), (2, .int (nI d)), (0, .ref (α 0)), (1, .int (nI x))]) (v := nI (p + 1)) 5 dL_holds_477 rfl (v_inc _) (by decide) rfl ?_
                            refine r_goto C 316 dL_holds_480 (by decide) ?_
                            refine r_lv (lv' := [(13, .int (nI (p + 1))), (12, .int (nI (sP σ))), (11, .int (nI 1)), (10, .int (nI nn)), (9, .int (mI lv)), (8, .int (mI fv)), (7, .int (nI a)), (6, .int (nI (sS σ))), (5, .int (nI uv)), (4, .int (nI (pl + k))), (3, .int (nI t)), (2, .int (nI d)), (0, .ref (α 0)), (1, .int (nI x))]) C [0, 6, 1, 7, 8, 9, 10, 11, 12, 2, 13, 14, 15, 16] rfl ?_
                            exact ih17 (p + 1) (pl + k) w55 (by omega) (by omega) (by rw [hpl0, hke]; exact plS_s a p) hA56
                          · refine r_iconst C dL_holds_452 ki_1 ?_
                            refine r_goto C 457 dL_holds_453 (by decide) ?_
                            refine r_iload C (i := 14) 3 dL_holds_457 rfl ?_
                            refine r_if_neF C (y := 0) (tgt := 466) dL_holds_459 (by decide) (fun z => ((by omega) : ¬ (k ≠ 0)) ((z_neN (by omega)).mp z)) ?_
                            refine r_iconst C dL_holds_462 ki_1 ?_
                            refine r_goto C 467 dL_holds_463 (by decide) ?_
                            refine r_icmp_neF C (tgt := 474) dL_holds_467 (by decide) (fun z => ((by decide) : ¬ (1 ≠ 1)) ((c_neNN (by omega) (by omega)).mp z)) ?_
                            refine r_iconst C dL_holds_470 ki_1 ?_
                            refine r_goto C 475 dL_holds_471 (by decide) ?_
                            refine r_istore C (lv' := [(11, .int (nI 1)), (4, .int (nI (pl + k))), (16, .int (nI (lgB σ p a 20))), (15, .int (mI bv)), (14, .int (nI k)), (13, .int (nI p)), (12, .int (nI (sP σ))), (10, .int (nI nn)), (9, .int (mI lv)), (8, .int (mI fv)), (7, .int (nI a)), (6, .int (nI (sS σ))), (5, .int (nI uv)), (3, .int (nI t)), (2, .int (nI d)), (0, .ref (α 0)), (1, .int (nI x))]) dL_holds_475 (by decide) rfl ?_
                            refine r_iinc C (lv' := [(13, .int (nI (p + 1))), (11, .int (nI 1)), (4, .int (nI (pl + k))), (16, .int (nI (lgB σ p a 20))), (15, .int (mI bv)), (14, .int (nI k)), (12, .int (nI (sP σ))), (10, .int (nI nn)), (9, .int (mI lv)), (8, .int (mI fv)), (7, .int (nI a)), (6, .int (nI (sS σ))), (5, .int (nI uv)), (3, .int (nI t)), (2, .int (nI d)), (0, .ref (α 0)), (1, .int (nI x))]) (v := nI (p + 1)) 5 dL_holds_477 rfl (v_inc _) (by decide) rfl ?_
                            refine r_goto C 316 dL_holds_480 (by decide) ?_
                            refine r_lv (lv' := [(13, .int (nI (p + 1))), (12, .int (nI (sP σ))), (11, .int (nI 1)), (10, .int (nI nn)), (9, .int (mI lv)), (8, .int (mI fv)), (7, .int (nI a)), (6, .int (nI (sS σ))), (5, .int (nI uv)), (4, .int (nI (pl + k))), (3, .int (nI t)), (2, .int (nI d)), (0, .ref (α 0)), (1, .int (nI x))]) C [0, 6, 1, 7, 8, 9, 10, 11, 12, 2, 13, 14, 15, 16] rfl ?_
                            exact ih17 (p + 1) (pl + k) w55 (by omega) (by omega) (by rw [hpl0, hke]; exact plS_s a p) hA56
                        · refine r_aload_n C (i := 0) 15 dL_holds_368 rfl rfl ?_
                          refine r_bipush C dL_holds_369 kb_18 ?_
                          refine r_iload C (i := 13) 3 dL_holds_371 rfl ?_
                          refine r_iload C (i := 7) 9 dL_holds_373 rfl ?_
                          refine r_iload C (i := 14) 2 dL_holds_375 rfl ?_
                          refine Ca.on hB.2.2.2 hB.2.1 (j := 0) (K := 0) (rest := []) (by omega) (cl_find hst hA56 (a := a) (k := k) (p := p) (hp := (by omega)) (ha := (by omega)) (hk := (by omega))).l lk_L_call w_2_41 dL_holds_377 rfl ⟨by decide, by decide⟩ (Nat.le_of_ble_eq_true rfl) ?_
                          rintro _ w59 ⟨rfl, hA60⟩
                          show Ω 0 w59 [(16, .int (nI (lgB σ p a 20))), (15, .int (mI bv)), (14, .int (nI k)), (13, .int (nI p)), (12, .int (nI (sP σ))), (11, .int (nI 1)), (10, .int (nI nn)), (9, .int (mI lv)), (8, .int (mI fv)), (7, .int (nI a)), (6, .int (nI (sS σ))), (5, .int (nI uv)), (4, .int (nI pl)), (3, .int (nI t)), (2, .int (nI d)), (0, .ref (α 0)), (1, .int (nI x))] [.int (mI (fnd σ p a k))] 380
                          have hkl := fd_le (by omega : fnd σ p a k ≠ 0)
                          obtain ⟨n, hn20, hpl9, hfd9, hfe9⟩ := fd_yes hkl
                          have hb9 : bv ≤ n := hb n hn20 hpl9 hfd9
                          have hpTl := pT_le hW hpp hn20
                          refine r_st (st' := [.int (nI n)]) (by rw [hfe9, mI_s]) ?_
                          refine r_istore C (lv' := [(17, .int (nI n)), (16, .int (nI (lgB σ p a 20))), (15, .int (mI bv)), (14, .int (nI k)), (13, .int (nI p)), (12, .int (nI (sP σ))), (11, .int (nI 1)), (10, .int (nI nn)), (9, .int (mI lv)), (8, .int (mI fv)), (7, .int (nI a)), (6, .int (nI (sS σ))), (5, .int (nI uv)), (4, .int (nI pl)), (3, .int (nI t)), (2, .int (nI d)), (0, .ref (α 0)), (1, .int (nI x))]) dL_holds_380 (by decide) rfl ?_
                          refine r_iload C (i := 17) 0 dL_holds_382 rfl ?_
                          refine r_iload C (i := 15) 2 dL_holds_384 rfl ?_
                          refine r_icmp_leF C (tgt := 415) dL_holds_386 (by decide) (fun z => ((by omega) : ¬ (n + 1 ≤ bv)) ((c_leNM (by omega) (by omega)).mp z)) ?_
                          refine r_iload C (i := 17) 0 dL_holds_389 rfl ?_
                          refine r_bipush C dL_holds_391 kb_20 ?_
                          refine r_icmp_geF C (tgt := 415) dL_holds_393 (by decide) (fun z => ((by omega) : ¬ (20 ≤ n)) ((c_leNN (by omega) (by omega)).mp z)) ?_
                          refine r_aload_n C (i := 0) 16 dL_holds_396 rfl rfl ?_
                          refine r_iconst C dL_holds_397 ki_3 ?_
                          refine r_iload C (i := 17) 0 dL_holds_398 rfl ?_
                          refine r_iload C (i := 13) 4 dL_holds_400 rfl ?_
                          refine r_iconst C dL_holds_402 ki_0 ?_
                          refine Ca.on hB.2.2.2 hB.2.1 (j := 0) (K := 0) (rest := []) (by omega) (cl_played hst hA60 (n := n) (p := p) (hn := (by omega)) (hp := (by omega))).l lk_L_call w_2_41 dL_holds_403 rfl ⟨by decide, by decide⟩ (Nat.le_of_ble_eq_true rfl) ?_
                          rintro _ w61 ⟨rfl, hA62⟩
                          show Ω 0 w61 [(17, .int (nI n)), (16, .int (nI (lgB σ p a 20))), (15, .int (mI bv)), (14, .int (nI k)), (13, .int (nI p)), (12, .int (nI (sP σ))), (11, .int (nI 1)), (10, .int (nI nn)), (9, .int (mI lv)), (8, .int (mI fv)), (7, .int (nI a)), (6, .int (nI (sS σ))), (5, .int (nI uv)), (4, .int (nI pl)), (3, .int (nI t)), (2, .int (nI d)), (0, .ref (α 0)), (1, .int (nI x))] [.int (mI (pT σ n p))] 406
                          refine r_iload C (i := 7) 10 dL_holds_406 rfl ?_
                          refine r_icmp_neF C (tgt := 415) dL_holds_408 (by decide) (fun z => ((fun z => z (pT_eq.mpr hpl9)) : ¬ (pT σ n p ≠ a + 1)) ((c_neMN (by omega) (by omega)).mp z)) ?_
                          refine r_iconst C dL_holds_411 ki_1 ?_
                          refine r_goto C 416 dL_holds_412 (by decide) ?_
                          refine r_istore C (lv' := [(11, .int (nI 1)), (17, .int (nI n)), (16, .int (nI (lgB σ p a 20))), (15, .int (mI bv)), (14, .int (nI k)), (13, .int (nI p)), (12, .int (nI (sP σ))), (10, .int (nI nn)), (9, .int (mI lv)), (8, .int (mI fv)), (7, .int (nI a)), (6, .int (nI (sS σ))), (5, .int (nI uv)), (4, .int (nI pl)), (3, .int (nI t)), (2, .int (nI d)), (0, .ref (α 0)), (1, .int (nI x))]) dL_holds_416 (by decide) rfl ?_
                          refine r_iload C (i := 17) 1 dL_holds_418 rfl ?_
                          refine r_istore C (lv' := [(15, .int (nI n)), (11, .int (nI 1)), (17, .int (nI n)), (16, .int (nI (lgB σ p a 20))), (14, .int (nI k)), (13, .int (nI p)), (12, .int (nI (sP σ))), (10, .int (nI nn)), (9, .int (mI lv)), (8, .int (mI fv)), (7, .int (nI a)), (6, .int (nI (sS σ))), (5, .int (nI uv)), (4, .int (nI pl)), (3, .int (nI t)), (2, .int (nI d)), (0, .ref (α 0)), (1, .int (nI x))]) dL_holds_420 (by decide) rfl ?_
                          refine r_iinc C (lv' := [(14, .int (nI (k + 1))), (15, .int (nI n)), (11, .int (nI 1)), (17, .int (nI n)), (16, .int (nI (lgB σ p a 20))), (13, .int (nI p)), (12, .int (nI (sP σ))), (10, .int (nI nn)), (9, .int (mI lv)), (8, .int (mI fv)), (7, .int (nI a)), (6, .int (nI (sS σ))), (5, .int (nI uv)), (4, .int (nI pl)), (3, .int (nI t)), (2, .int (nI d)), (0, .ref (α 0)), (1, .int (nI x))]) (v := nI (k + 1)) 4 dL_holds_422 rfl (v_inc _) (by decide) rfl ?_
                          refine r_goto C 347 dL_holds_425 (by decide) ?_
                          refine r_lo (lv' := [(14, .int (nI (k + 1))), (15, .int (mI (n + 1))), (11, .int (nI 1)), (17, .int (nI n)), (16, .int (nI (lgB σ p a 20))), (13, .int (nI p)), (12, .int (nI (sP σ))), (10, .int (nI nn)), (9, .int (mI lv)), (8, .int (mI fv)), (7, .int (nI a)), (6, .int (nI (sS σ))), (5, .int (nI uv)), (4, .int (nI pl)), (3, .int (nI t)), (2, .int (nI d)), (0, .ref (α 0)), (1, .int (nI x))]) (by rw [mI_s]) ?_
                          refine r_lv (lv' := [(16, .int (nI (lgB σ p a 20))), (15, .int (mI (n + 1))), (14, .int (nI (k + 1))), (13, .int (nI p)), (12, .int (nI (sP σ))), (11, .int (nI 1)), (10, .int (nI nn)), (9, .int (mI lv)), (8, .int (mI fv)), (7, .int (nI a)), (6, .int (nI (sS σ))), (5, .int (nI uv)), (4, .int (nI pl)), (3, .int (nI t)), (2, .int (nI d)), (0, .ref (α 0)), (1, .int (nI x))]) C [4, 1, 0, 5, 6, 2, 7, 8, 9, 10, 11, 12, 13, 14, 15, 16, 17] rfl ?_
                          exact ih54 (k + 1) (n + 1) w61 (by omega) (by omega) (fun m h1 h2 h3 => fd_next (σ := σ) (p := p) (a := a) (by omega)) hA62
                    exact loop347_53 _ 0 0 w50 (Nat.lt_succ_self _) (Nat.zero_le _) (fun n _ _ _ => Nat.zero_le n) hA51
              exact loop316_16 _ 0 0 w13 (Nat.lt_succ_self _) (by omega) rfl hA14
            · have hL := hW.L (by omega : k < sS σ)
              have hTl := T_le hW hL.2.1 hL.1
              have hwl : Wy σ (sL σ k 0) (sL σ k 1) ≤ 3 := why_le σ _ _ _
              refine r_iload C (i := 11) 1 dL_holds_192 rfl ?_
              refine r_if_eqF C (y := 0) (tgt := 303) dL_holds_194 (by decide) (fun z => ((by decide) : ¬ (1 = 0)) ((z_eqN (by omega)).mp z)) ?_
              refine r_aload_n C (i := 0) 11 dL_holds_197 rfl rfl ?_
              refine r_bipush C dL_holds_198 kb_8 ?_
              refine r_iload C (i := 12) 0 dL_holds_200 rfl ?_
              refine r_iconst C dL_holds_202 ki_4 ?_
              refine r_iconst C dL_holds_203 ki_0 ?_
              refine Ca.on hB.2.2.2 hB.2.1 (j := 0) (K := 0) (rest := []) (by omega) (cl_found_4 hst hAL90 (k := k) (hk := (by omega))).l lk_L_call w_2_41 dL_holds_204 rfl ⟨by decide, by decide⟩ (Nat.le_of_ble_eq_true rfl) ?_
              rintro _ w63 ⟨rfl, hA64⟩
              show Ω 0 w63 [(12, .int (nI k)), (11, .int (nI 1)), (10, .int (nI nn)), (9, .int (mI lv)), (8, .int (mI fv)), (7, .int (nI a)), (6, .int (nI (sS σ))), (5, .int (nI uv)), (4, .int (nI 0)), (3, .int (nI t)), (2, .int (nI d)), (0, .ref (α 0)), (1, .int (nI x))] [.int (nI (if usd σ k then 1 else 0))] 207
              by_cases hu : usd σ k
              · refine r_st (st' := [.int (nI 1)]) (by rw [if_pos hu]) ?_
                refine r_istore C (lv' := [(13, .int (nI 1)), (12, .int (nI k)), (11, .int (nI 1)), (10, .int (nI nn)), (9, .int (mI lv)), (8, .int (mI fv)), (7, .int (nI a)), (6, .int (nI (sS σ))), (5, .int (nI uv)), (4, .int (nI 0)), (3, .int (nI t)), (2, .int (nI d)), (0, .ref (α 0)), (1, .int (nI x))]) dL_holds_207 (by decide) rfl ?_
                refine r_iload C (i := 5) 8 dL_holds_209 rfl ?_
                refine r_iload C (i := 13) 0 dL_holds_211 rfl ?_
                refine r_iadd (v := nI (uv + 1)) C dL_holds_213 (nI_add _ _) ?_
                refine r_istore C (lv' := [(5, .int (nI (uv + 1))), (13, .int (nI 1)), (12, .int (nI k)), (11, .int (nI 1)), (10, .int (nI nn)), (9, .int (mI lv)), (8, .int (mI fv)), (7, .int (nI a)), (6, .int (nI (sS σ))), (4, .int (nI 0)), (3, .int (nI t)), (2, .int (nI d)), (0, .ref (α 0)), (1, .int (nI x))]) dL_holds_214 (by decide) rfl ?_
                refine r_iload C (i := 13) 1 dL_holds_216 rfl ?_
                refine r_if_eqF C (y := 0) (tgt := 290) dL_holds_218 (by decide) (fun z => ((by decide) : ¬ (1 = 0)) ((z_eqN (by omega)).mp z)) ?_
                refine r_aload_n C (i := 0) 12 dL_holds_221 rfl rfl ?_
                refine r_iconst C dL_holds_222 ki_4 ?_
                refine r_aload_n C (i := 0) 12 dL_holds_223 rfl rfl ?_
                refine r_bipush C dL_holds_224 kb_8 ?_
                refine r_iload C (i := 12) 2 dL_holds_226 rfl ?_
                refine r_iconst C dL_holds_228 ki_0 ?_
                refine r_iconst C dL_holds_229 ki_0 ?_
                refine Ca.on hB.2.2.2 hB.2.1 (j := 0) (K := 0) (rest := [.int (nI 4), .ref (α 0)]) (by omega) (cl_found_0 hst hA64 (k := k) (hk := (by omega))).l lk_L_call w_2_41 dL_holds_230 rfl ⟨by decide, by decide⟩ (Nat.le_of_ble_eq_true rfl) ?_
                rintro _ w65 ⟨rfl, hA66⟩
                show Ω 0 w65 [(5, .int (nI (uv + 1))), (13, .int (nI 1)), (12, .int (nI k)), (11, .int (nI 1)), (10, .int (nI nn)), (9, .int (mI lv)), (8, .int (mI fv)), (7, .int (nI a)), (6, .int (nI (sS σ))), (4, .int (nI 0)), (3, .int (nI t)), (2, .int (nI d)), (0, .ref (α 0)), (1, .int (nI x))] [.int (nI (sL σ k 0)), .int (nI 4), .ref (α 0)] 233
                refine r_aload_n C (i := 0) 12 dL_holds_233 rfl rfl ?_
                refine r_bipush C dL_holds_234 kb_8 ?_
                refine r_iload C (i := 12) 2 dL_holds_236 rfl ?_
                refine r_iconst C dL_holds_238 ki_1 ?_
                refine r_iconst C dL_holds_239 ki_0 ?_
                refine Ca.on hB.2.2.2 hB.2.1 (j := 0) (K := 0) (rest := [.int (nI (sL σ k 0)), .int (nI 4), .ref (α 0)]) (by omega) (cl_found_1 hst hA66 (k := k) (hk := (by omega))).l lk_L_call w_2_41 dL_holds_240 rfl ⟨by decide, by decide⟩ (Nat.le_of_ble_eq_true rfl) ?_
                rintro _ w67 ⟨rfl, hA68⟩
                show Ω 0 w67 [(5, .int (nI (uv + 1))), (13, .int (nI 1)), (12, .int (nI k)), (11, .int (nI 1)), (10, .int (nI nn)), (9, .int (mI lv)), (8, .int (mI fv)), (7, .int (nI a)), (6, .int (nI (sS σ))), (4, .int (nI 0)), (3, .int (nI t)), (2, .int (nI d)), (0, .ref (α 0)), (1, .int (nI x))] [.int (nI (sL σ k 1)), .int (nI (sL σ k 0)), .int (nI 4), .ref (α 0)] 243
                refine r_iconst C dL_holds_243 ki_1 ?_
                refine Ca.on hB.2.2.2 hB.2.1 (j := 0) (K := 0) (rest := []) (by omega) (cl_bill_1 hst hA68 (n := sL σ k 0) (p := sL σ k 1) (hn := (by omega)) (hp := (by omega))).l lk_L_call w_2_41 dL_holds_244 rfl ⟨by decide, by decide⟩ (Nat.le_of_ble_eq_true rfl) ?_
                rintro _ w69 ⟨rfl, hA70⟩
                show Ω 0 w69 [(5, .int (nI (uv + 1))), (13, .int (nI 1)), (12, .int (nI k)), (11, .int (nI 1)), (10, .int (nI nn)), (9, .int (mI lv)), (8, .int (mI fv)), (7, .int (nI a)), (6, .int (nI (sS σ))), (4, .int (nI 0)), (3, .int (nI t)), (2, .int (nI d)), (0, .ref (α 0)), (1, .int (nI x))] [.int (mI (T σ (sL σ k 0) (sL σ k 1)))] 247
                refine r_aload_n C (i := 0) 12 dL_holds_247 rfl rfl ?_
                refine r_bipush C dL_holds_248 kb_8 ?_
                refine r_iload C (i := 12) 2 dL_holds_250 rfl ?_
                refine r_iconst C dL_holds_252 ki_2 ?_
                refine r_iconst C dL_holds_253 ki_0 ?_
                refine Ca.on hB.2.2.2 hB.2.1 (j := 0) (K := 0) (rest := [.int (mI (T σ (sL σ k 0) (sL σ k 1)))]) (by omega) (cl_found_2 hst hA70 (k := k) (hk := (by omega))).l lk_L_call w_2_41 dL_holds_254 rfl ⟨by decide, by decide⟩ (Nat.le_of_ble_eq_true rfl) ?_
                rintro _ w71 ⟨rfl, hA72⟩
                show Ω 0 w71 [(5, .int (nI (uv + 1))), (13, .int (nI 1)), (12, .int (nI k)), (11, .int (nI 1)), (10, .int (nI nn)), (9, .int (mI lv)), (8, .int (mI fv)), (7, .int (nI a)), (6, .int (nI (sS σ))), (4, .int (nI 0)), (3, .int (nI t)), (2, .int (nI d)), (0, .ref (α 0)), (1, .int (nI x))] [.int (nI (sL σ k 2)), .int (mI (T σ (sL σ k 0) (sL σ k 1)))] 257
                refine r_icmp_neF C (tgt := 294) dL_holds_257 (by decide) (fun z => ((fun z => z (usd_T hu).1) : ¬ (T σ (sL σ k 0) (sL σ k 1) ≠ sL σ k 2 + 1)) ((c_neMN (by omega) (by omega)).mp z)) ?_
                refine r_aload_n C (i := 0) 12 dL_holds_260 rfl rfl ?_
                refine r_iconst C dL_holds_261 ki_4 ?_
                refine r_aload_n C (i := 0) 12 dL_holds_262 rfl rfl ?_
                refine r_bipush C dL_holds_263 kb_8 ?_
                refine r_iload C (i := 12) 2 dL_holds_265 rfl ?_
                refine r_iconst C dL_holds_267 ki_0 ?_
                refine r_iconst C dL_holds_268 ki_0 ?_
                refine Ca.on hB.2.2.2 hB.2.1 (j := 0) (K := 0) (rest := [.int (nI 4), .ref (α 0)]) (by omega) (cl_found_0 hst hA72 (k := k) (hk := (by omega))).l lk_L_call w_2_41 dL_holds_269 rfl ⟨by decide, by decide⟩ (Nat.le_of_ble_eq_true rfl) ?_
                rintro _ w73 ⟨rfl, hA74⟩
                show Ω 0 w73 [(5, .int (nI (uv + 1))), (13, .int (nI 1)), (12, .int (nI k)), (11, .int (nI 1)), (10, .int (nI nn)), (9, .int (mI lv)), (8, .int (mI fv)), (7, .int (nI a)), (6, .int (nI (sS σ))), (4, .int (nI 0)), (3, .int (nI t)), (2, .int (nI d)), (0, .ref (α 0)), (1, .int (nI x))] [.int (nI (sL σ k 0)), .int (nI 4), .ref (α 0)] 272
                refine r_aload_n C (i := 0) 12 dL_holds_272 rfl rfl ?_
                refine r_bipush C dL_holds_273 kb_8 ?_
                refine r_iload C (i := 12) 2 dL_holds_275 rfl ?_
                refine r_iconst C dL_holds_277 ki_1 ?_
                refine r_iconst C dL_holds_278 ki_0 ?_
                refine Ca.on hB.2.2.2 hB.2.1 (j := 0) (K := 0) (rest := [.int (nI (sL σ k 0)), .int (nI 4), .ref (α 0)]) (by omega) (cl_found_1 hst hA74 (k := k) (hk := (by omega))).l lk_L_call w_2_41 dL_holds_279 rfl ⟨by decide, by decide⟩ (Nat.le_of_ble_eq_true rfl) ?_
                rintro _ w75 ⟨rfl, hA76⟩
                show Ω 0 w75 [(5, .int (nI (uv + 1))), (13, .int (nI 1)), (12, .int (nI k)), (11, .int (nI 1)), (10, .int (nI nn)), (9, .int (mI lv)), (8, .int (mI fv)), (7, .int (nI a)), (6, .int (nI (sS σ))), (4, .int (nI 0)), (3, .int (nI t)), (2, .int (nI d)), (0, .ref (α 0)), (1, .int (nI x))] [.int (nI (sL σ k 1)), .int (nI (sL σ k 0)), .int (nI 4), .ref (α 0)] 282
                refine r_iconst C dL_holds_282 ki_2 ?_
                refine Ca.on hB.2.2.2 hB.2.1 (j := 0) (K := 0) (rest := []) (by omega) (cl_bill_2 hst hA76 (n := sL σ k 0) (p := sL σ k 1) (hn := (by omega)) (hp := (by omega))).l lk_L_call w_2_41 dL_holds_283 rfl ⟨by decide, by decide⟩ (Nat.le_of_ble_eq_true rfl) ?_
                rintro _ w77 ⟨rfl, hA78⟩
                show Ω 0 w77 [(5, .int (nI (uv + 1))), (13, .int (nI 1)), (12, .int (nI k)), (11, .int (nI 1)), (10, .int (nI nn)), (9, .int (mI lv)), (8, .int (mI fv)), (7, .int (nI a)), (6, .int (nI (sS σ))), (4, .int (nI 0)), (3, .int (nI t)), (2, .int (nI d)), (0, .ref (α 0)), (1, .int (nI x))] [.int (nI (Wy σ (sL σ k 0) (sL σ k 1)))] 286
                refine r_iconst C dL_holds_286 ki_1 ?_
                refine r_icmp_neF C (tgt := 294) dL_holds_287 (by decide) (fun z => ((fun z => z (usd_T hu).2) : ¬ (Wy σ (sL σ k 0) (sL σ k 1) ≠ 1)) ((c_neNN (by omega) (by omega)).mp z)) ?_
                refine r_iconst C dL_holds_290 ki_1 ?_
                refine r_goto C 295 dL_holds_291 (by decide) ?_
                refine r_istore C (lv' := [(11, .int (nI 1)), (5, .int (nI (uv + 1))), (13, .int (nI 1)), (12, .int (nI k)), (10, .int (nI nn)), (9, .int (mI lv)), (8, .int (mI fv)), (7, .int (nI a)), (6, .int (nI (sS σ))), (4, .int (nI 0)), (3, .int (nI t)), (2, .int (nI d)), (0, .ref (α 0)), (1, .int (nI x))]) dL_holds_295 (by decide) rfl ?_
                refine r_iinc C (lv' := [(12, .int (nI (k + 1))), (11, .int (nI 1)), (5, .int (nI (uv + 1))), (13, .int (nI 1)), (10, .int (nI nn)), (9, .int (mI lv)), (8, .int (mI fv)), (7, .int (nI a)), (6, .int (nI (sS σ))), (4, .int (nI 0)), (3, .int (nI t)), (2, .int (nI d)), (0, .ref (α 0)), (1, .int (nI x))]) (v := nI (k + 1)) 3 dL_holds_297 rfl (v_inc _) (by decide) rfl ?_
                refine r_goto C 185 dL_holds_300 (by decide) ?_
                refine r_lv (lv' := [(12, .int (nI (k + 1))), (11, .int (nI 1)), (10, .int (nI nn)), (9, .int (mI lv)), (8, .int (mI fv)), (7, .int (nI a)), (6, .int (nI (sS σ))), (5, .int (nI (uv + 1))), (4, .int (nI 0)), (3, .int (nI t)), (2, .int (nI d)), (0, .ref (α 0)), (1, .int (nI x))]) C [0, 1, 4, 5, 6, 7, 8, 2, 9, 10, 11, 12, 13] rfl ?_
                exact ih11 (k + 1) (uv + 1) w77 (by omega) (by omega) (by rw [huv]; exact us_y hu) hA78
              · refine r_st (st' := [.int (nI 0)]) (by rw [if_neg hu]) ?_
                refine r_istore C (lv' := [(13, .int (nI 0)), (12, .int (nI k)), (11, .int (nI 1)), (10, .int (nI nn)), (9, .int (mI lv)), (8, .int (mI fv)), (7, .int (nI a)), (6, .int (nI (sS σ))), (5, .int (nI uv)), (4, .int (nI 0)), (3, .int (nI t)), (2, .int (nI d)), (0, .ref (α 0)), (1, .int (nI x))]) dL_holds_207 (by decide) rfl ?_
                refine r_iload C (i := 5) 8 dL_holds_209 rfl ?_
                refine r_iload C (i := 13) 0 dL_holds_211 rfl ?_
                refine r_iadd (v := nI (uv + 0)) C dL_holds_213 (nI_add _ _) ?_
                refine r_istore C (lv' := [(5, .int (nI (uv + 0))), (13, .int (nI 0)), (12, .int (nI k)), (11, .int (nI 1)), (10, .int (nI nn)), (9, .int (mI lv)), (8, .int (mI fv)), (7, .int (nI a)), (6, .int (nI (sS σ))), (4, .int (nI 0)), (3, .int (nI t)), (2, .int (nI d)), (0, .ref (α 0)), (1, .int (nI x))]) dL_holds_214 (by decide) rfl ?_
                refine r_iload C (i := 13) 1 dL_holds_216 rfl ?_
                refine r_if_eqT C (y := 0) 290 dL_holds_218 (by decide) ((z_eqN (by omega)).mpr (by decide)) ?_
                refine r_iconst C dL_holds_290 ki_1 ?_
                refine r_goto C 295 dL_holds_291 (by decide) ?_
                refine r_istore C (lv' := [(11, .int (nI 1)), (5, .int (nI (uv + 0))), (13, .int (nI 0)), (12, .int (nI k)), (10, .int (nI nn)), (9, .int (mI lv)), (8, .int (mI fv)), (7, .int (nI a)), (6, .int (nI (sS σ))), (4, .int (nI 0)), (3, .int (nI t)), (2, .int (nI d)), (0, .ref (α 0)), (1, .int (nI x))]) dL_holds_295 (by decide) rfl ?_
                refine r_iinc C (lv' := [(12, .int (nI (k + 1))), (11, .int (nI 1)), (5, .int (nI (uv + 0))), (13, .int (nI 0)), (10, .int (nI nn)), (9, .int (mI lv)), (8, .int (mI fv)), (7, .int (nI a)), (6, .int (nI (sS σ))), (4, .int (nI 0)), (3, .int (nI t)), (2, .int (nI d)), (0, .ref (α 0)), (1, .int (nI x))]) (v := nI (k + 1)) 3 dL_holds_297 rfl (v_inc _) (by decide) rfl ?_
                refine r_goto C 185 dL_holds_300 (by decide) ?_
                refine r_lv (lv' := [(12, .int (nI (k + 1))), (11, .int (nI 1)), (10, .int (nI nn)), (9, .int (mI lv)), (8, .int (mI fv)), (7, .int (nI a)), (6, .int (nI (sS σ))), (5, .int (nI (uv + 0))), (4, .int (nI 0)), (3, .int (nI t)), (2, .int (nI d)), (0, .ref (α 0)), (1, .int (nI x))]) C [0, 1, 4, 5, 6, 7, 8, 2, 9, 10, 11, 12, 13] rfl ?_
                exact ih11 (k + 1) (uv + 0) w63 (by omega) (by omega) (by rw [huv]; exact us_n hu) hA64
        exact loop185_10 _ 0 0 wL50 (Nat.lt_succ_self _) (by omega) rfl hAL50
      · have hn2 : n < 20 := by omega
        have hpl := plr_lt hW hn2
        have hpf9 := pfN_le σ a n
        refine r_iload C (i := 11) 1 dL_holds_65 rfl ?_
        refine r_if_eqF C (y := 0) (tgt := 182) dL_holds_67 (by decide) (fun z => ((by decide) : ¬ (1 = 0)) ((z_eqN (by omega)).mp z)) ?_
        refine r_aload_n C (i := 0) 11 dL_holds_70 rfl rfl ?_
        refine r_iload C (i := 12) 0 dL_holds_71 rfl ?_
        refine Ca.on hB.2.2.2 hB.2.1 (j := 0) (K := 0) (rest := []) (by omega) (n_night hst hAL50 (n := n) (hn := (by omega))).l lk_L_night w_5_56 dL_holds_73 rfl ⟨by decide, by decide⟩ (Nat.le_of_ble_eq_true rfl) ?_
        rintro _ w79 ⟨rfl, hA80⟩
        show Ω 0 w79 [(12, .int (nI n)), (11, .int (nI 1)), (10, .int (nI nn)), (9, .int (mI lv)), (8, .int (mI fv)), (7, .int (nI a)), (6, .int (nI (sS σ))), (5, .int (nI 0)), (4, .int (nI 0)), (3, .int (nI t)), (2, .int (nI d)), (0, .ref (α 0)), (1, .int (nI x))] [.int (nI 1)] 76
        refine r_istore C (lv' := [(11, .int (nI 1)), (12, .int (nI n)), (10, .int (nI nn)), (9, .int (mI lv)), (8, .int (mI fv)), (7, .int (nI a)), (6, .int (nI (sS σ))), (5, .int (nI 0)), (4, .int (nI 0)), (3, .int (nI t)), (2, .int (nI d)), (0, .ref (α 0)), (1, .int (nI x))]) dL_holds_76 (by decide) rfl ?_
        refine r_iload_n C (i := 2) 10 dL_holds_78 rfl rfl ?_
        refine r_aload_n C (i := 0) 11 dL_holds_79 rfl rfl ?_
        refine r_iconst C dL_holds_80 ki_5 ?_
        refine r_iload C (i := 12) 1 dL_holds_81 rfl ?_
        refine r_iconst C dL_holds_83 ki_0 ?_
        refine r_iconst C dL_holds_84 ki_0 ?_
        refine Ca.on hB.2.2.2 hB.2.1 (j := 0) (K := 0) (rest := [.int (nI d)]) (by omega) (cl_night_0 hst hA80 (n := n) (hn := (by omega))).l lk_L_call w_2_41 dL_holds_85 rfl ⟨by decide, by decide⟩ (Nat.le_of_ble_eq_true rfl) ?_
        rintro _ w81 ⟨rfl, hA82⟩
        show Ω 0 w81 [(11, .int (nI 1)), (12, .int (nI n)), (10, .int (nI nn)), (9, .int (mI lv)), (8, .int (mI fv)), (7, .int (nI a)), (6, .int (nI (sS σ))), (5, .int (nI 0)), (4, .int (nI 0)), (3, .int (nI t)), (2, .int (nI d)), (0, .ref (α 0)), (1, .int (nI x))] [.int (nI (dk σ n)), .int (nI d)] 88
        refine r_iadd (v := nI (d + (dk σ n))) C dL_holds_88 (nI_add _ _) ?_
        refine r_istore_n C (lv' := [(2, .int (nI (d + (dk σ n)))), (11, .int (nI 1)), (12, .int (nI n)), (10, .int (nI nn)), (9, .int (mI lv)), (8, .int (mI fv)), (7, .int (nI a)), (6, .int (nI (sS σ))), (5, .int (nI 0)), (4, .int (nI 0)), (3, .int (nI t)), (0, .ref (α 0)), (1, .int (nI x))]) dL_holds_89 rfl (by decide) rfl ?_
        refine r_iload_n C (i := 3) 10 dL_holds_90 rfl rfl ?_
        refine r_aload_n C (i := 0) 11 dL_holds_91 rfl rfl ?_
        refine r_iconst C dL_holds_92 ki_5 ?_
        refine r_iload C (i := 12) 2 dL_holds_93 rfl ?_
        refine r_iconst C dL_holds_95 ki_1 ?_
        refine r_iconst C dL_holds_96 ki_0 ?_
        refine Ca.on hB.2.2.2 hB.2.1 (j := 0) (K := 0) (rest := [.int (nI t)]) (by omega) (cl_night_1 hst hA82 (n := n) (hn := (by omega))).l lk_L_call w_2_41 dL_holds_97 rfl ⟨by decide, by decide⟩ (Nat.le_of_ble_eq_true rfl) ?_
        rintro _ w83 ⟨rfl, hA84⟩
        show Ω 0 w83 [(2, .int (nI (d + (dk σ n)))), (11, .int (nI 1)), (12, .int (nI n)), (10, .int (nI nn)), (9, .int (mI lv)), (8, .int (mI fv)), (7, .int (nI a)), (6, .int (nI (sS σ))), (5, .int (nI 0)), (4, .int (nI 0)), (3, .int (nI t)), (0, .ref (α 0)), (1, .int (nI x))] [.int (nI (tak σ n)), .int (nI t)] 100
        refine r_iadd (v := nI (t + (tak σ n))) C dL_holds_100 (nI_add _ _) ?_
        refine r_istore_n C (lv' := [(3, .int (nI (t + (tak σ n)))), (2, .int (nI (d + (dk σ n)))), (11, .int (nI 1)), (12, .int (nI n)), (10, .int (nI nn)), (9, .int (mI lv)), (8, .int (mI fv)), (7, .int (nI a)), (6, .int (nI (sS σ))), (5, .int (nI 0)), (4, .int (nI 0)), (0, .ref (α 0)), (1, .int (nI x))]) dL_holds_101 rfl (by decide) rfl ?_
        refine r_aload_n C (i := 0) 11 dL_holds_102 rfl rfl ?_
        refine r_iconst C dL_holds_103 ki_5 ?_
        refine r_iload C (i := 12) 3 dL_holds_104 rfl ?_
        refine r_iconst C dL_holds_106 ki_3 ?_
        refine r_iconst C dL_holds_107 ki_0 ?_
        refine Ca.on hB.2.2.2 hB.2.1 (j := 0) (K := 0) (rest := []) (by omega) (cl_night_3 hst hA84 (n := n) (hn := (by omega))).l lk_L_call w_2_41 dL_holds_108 rfl ⟨by decide, by decide⟩ (Nat.le_of_ble_eq_true rfl) ?_
        rintro _ w85 ⟨rfl, hA86⟩
        show Ω 0 w85 [(3, .int (nI (t + (tak σ n)))), (2, .int (nI (d + (dk σ n)))), (11, .int (nI 1)), (12, .int (nI n)), (10, .int (nI nn)), (9, .int (mI lv)), (8, .int (mI fv)), (7, .int (nI a)), (6, .int (nI (sS σ))), (5, .int (nI 0)), (4, .int (nI 0)), (0, .ref (α 0)), (1, .int (nI x))] [.int (nI (plr σ n))] 111
        refine r_iload C (i := 7) 7 dL_holds_111 rfl ?_
        refine r_ishr (v := nI ((plr σ n) / 2 ^ a)) C dL_holds_113 (v_shr (by omega) (by omega)) ?_
        refine r_iconst C dL_holds_114 ki_1 ?_
        refine r_iand (v := nI (((plr σ n) / 2 ^ a) % 2)) C dL_holds_115 (v_and1 _) ?_
        refine r_iconst C dL_holds_116 ki_1 ?_
        refine r_icmp_ne C (c9 := ((plr σ n) / 2 ^ a) % 2 ≠ 1) 124 dL_holds_117 (by decide) (c_neNN (by omega) (by omega)) (fun h117_87 => ?_) (fun h117_87 => ?_)
        · have hply : ¬ ply σ n a ≠ 0 := fun z => h117_87 (plr_bit.mpr z)
          refine r_iconst C dL_holds_124 ki_0 ?_
          refine r_istore C (lv' := [(13, .int (nI 0)), (3, .int (nI (t + (tak σ n)))), (2, .int (nI (d + (dk σ n)))), (11, .int (nI 1)), (12, .int (nI n)), (10, .int (nI nn)), (9, .int (mI lv)), (8, .int (mI fv)), (7, .int (nI a)), (6, .int (nI (sS σ))), (5, .int (nI 0)), (4, .int (nI 0)), (0, .ref (α 0)), (1, .int (nI x))]) dL_holds_125 (by decide) rfl ?_
          refine r_iload C (i := 10) 5 dL_holds_127 rfl ?_
          refine r_iload C (i := 13) 0 dL_holds_129 rfl ?_
          refine r_if_eqT C (y := 0) 138 dL_holds_131 (by decide) ((z_eqN (by omega)).mpr (by decide)) ?_
          refine r_iconst C dL_holds_138 ki_0 ?_
          refine r_iadd (v := nI (nn + 0)) C dL_holds_139 (nI_add _ _) ?_
          refine r_istore C (lv' := [(10, .int (nI (nn + 0))), (13, .int (nI 0)), (3, .int (nI (t + (tak σ n)))), (2, .int (nI (d + (dk σ n)))), (11, .int (nI 1)), (12, .int (nI n)), (9, .int (mI lv)), (8, .int (mI fv)), (7, .int (nI a)), (6, .int (nI (sS σ))), (5, .int (nI 0)), (4, .int (nI 0)), (0, .ref (α 0)), (1, .int (nI x))]) dL_holds_140 (by decide) rfl ?_
          refine r_iload C (i := 13) 1 dL_holds_142 rfl ?_
          refine r_if_eqT C (y := 0) 158 dL_holds_144 (by decide) ((z_eqN (by omega)).mpr (by decide)) ?_
          refine r_iload C (i := 8) 7 dL_holds_158 rfl ?_
          refine r_istore C (lv' := [(8, .int (mI fv)), (10, .int (nI (nn + 0))), (13, .int (nI 0)), (3, .int (nI (t + (tak σ n)))), (2, .int (nI (d + (dk σ n)))), (11, .int (nI 1)), (12, .int (nI n)), (9, .int (mI lv)), (7, .int (nI a)), (6, .int (nI (sS σ))), (5, .int (nI 0)), (4, .int (nI 0)), (0, .ref (α 0)), (1, .int (nI x))]) dL_holds_160 (by decide) rfl ?_
          refine r_iload C (i := 13) 2 dL_holds_162 rfl ?_
          refine r_if_eqT C (y := 0) 172 dL_holds_164 (by decide) ((z_eqN (by omega)).mpr (by decide)) ?_
          refine r_iload C (i := 9) 7 dL_holds_172 rfl ?_
          refine r_istore C (lv' := [(9, .int (mI lv)), (8, .int (mI fv)), (10, .int (nI (nn + 0))), (13, .int (nI 0)), (3, .int (nI (t + (tak σ n)))), (2, .int (nI (d + (dk σ n)))), (11, .int (nI 1)), (12, .int (nI n)), (7, .int (nI a)), (6, .int (nI (sS σ))), (5, .int (nI 0)), (4, .int (nI 0)), (0, .ref (α 0)), (1, .int (nI x))]) dL_holds_174 (by decide) rfl ?_
          refine r_iinc C (lv' := [(12, .int (nI (n + 1))), (9, .int (mI lv)), (8, .int (mI fv)), (10, .int (nI (nn + 0))), (13, .int (nI 0)), (3, .int (nI (t + (tak σ n)))), (2, .int (nI (d + (dk σ n)))), (11, .int (nI 1)), (7, .int (nI a)), (6, .int (nI (sS σ))), (5, .int (nI 0)), (4, .int (nI 0)), (0, .ref (α 0)), (1, .int (nI x))]) (v := nI (n + 1)) 7 dL_holds_176 rfl (v_inc _) (by decide) rfl ?_
          refine r_goto C 58 dL_holds_179 (by decide) ?_
          refine r_lv (lv' := [(12, .int (nI (n + 1))), (11, .int (nI 1)), (10, .int (nI (nn + 0))), (9, .int (mI lv)), (8, .int (mI fv)), (7, .int (nI a)), (6, .int (nI (sS σ))), (5, .int (nI 0)), (4, .int (nI 0)), (3, .int (nI (t + (tak σ n)))), (2, .int (nI (d + (dk σ n)))), (0, .ref (α 0)), (1, .int (nI x))]) C [0, 7, 3, 1, 2, 8, 9, 10, 11, 5, 6, 12, 13] rfl ?_
          exact ih7 (n + 1) (d + (dk σ n)) (t + (tak σ n)) (nn + 0) fv lv w85 (by omega) (by omega) (by rw [hd9]; rfl) (by rw [ht9]; rfl) (by rw [hnn]; exact pc_n hply) (by rw [hfv]; exact pf_n (fun z => hply z.1)) (by rw [hlv]; exact pl_n hply) hA86
        · have hply := plr_bit.mp (Decidable.not_not.mp h117_87)
          refine r_iconst C dL_holds_120 ki_1 ?_
          refine r_goto C 125 dL_holds_121 (by decide) ?_
          refine r_istore C (lv' := [(13, .int (nI 1)), (3, .int (nI (t + (tak σ n)))), (2, .int (nI (d + (dk σ n)))), (11, .int (nI 1)), (12, .int (nI n)), (10, .int (nI nn)), (9, .int (mI lv)), (8, .int (mI fv)), (7, .int (nI a)), (6, .int (nI (sS σ))), (5, .int (nI 0)), (4, .int (nI 0)), (0, .ref (α 0)), (1, .int (nI x))]) dL_holds_125 (by decide) rfl ?_
          refine r_iload C (i := 10) 5 dL_holds_127 rfl ?_
          refine r_iload C (i := 13) 0 dL_holds_129 rfl ?_
          refine r_if_eqF C (y := 0) (tgt := 138) dL_holds_131 (by decide) (fun z => ((by decide) : ¬ (1 = 0)) ((z_eqN (by omega)).mp z)) ?_
          refine r_iconst C dL_holds_134 ki_1 ?_
          refine r_goto C 139 dL_holds_135 (by decide) ?_
          refine r_iadd (v := nI (nn + 1)) C dL_holds_139 (nI_add _ _) ?_
          refine r_istore C (lv' := [(10, .int (nI (nn + 1))), (13, .int (nI 1)), (3, .int (nI (t + (tak σ n)))), (2, .int (nI (d + (dk σ n)))), (11, .int (nI 1)), (12, .int (nI n)), (9, .int (mI lv)), (8, .int (mI fv)), (7, .int (nI a)), (6, .int (nI (sS σ))), (5, .int (nI 0)), (4, .int (nI 0)), (0, .ref (α 0)), (1, .int (nI x))]) dL_holds_140 (by decide) rfl ?_
          refine r_iload C (i := 13) 1 dL_holds_142 rfl ?_
          refine r_if_eqF C (y := 0) (tgt := 158) dL_holds_144 (by decide) (fun z => ((by decide) : ¬ (1 = 0)) ((z_eqN (by omega)).mp z)) ?_
          refine r_iload C (i := 8) 7 dL_holds_147 rfl ?_
          refine r_iconst C dL_holds_149 ki_m1 ?_
          refine r_icmp_ne C (c9 := fv ≠ 0) 158 dL_holds_150 (by decide) (c_neMM (by omega) (by omega)) (fun h150_88 => ?_) (fun h150_88 => ?_)
          · refine r_iload C (i := 8) 7 dL_holds_158 rfl ?_
            refine r_istore C (lv' := [(8, .int (mI fv)), (10, .int (nI (nn + 1))), (13, .int (nI 1)), (3, .int (nI (t + (tak σ n)))), (2, .int (nI (d + (dk σ n)))), (11, .int (nI 1)), (12, .int (nI n)), (9, .int (mI lv)), (7, .int (nI a)), (6, .int (nI (sS σ))), (5, .int (nI 0)), (4, .int (nI 0)), (0, .ref (α 0)), (1, .int (nI x))]) dL_holds_160 (by decide) rfl ?_
            refine r_iload C (i := 13) 2 dL_holds_162 rfl ?_
            refine r_if_eqF C (y := 0) (tgt := 172) dL_holds_164 (by decide) (fun z => ((by decide) : ¬ (1 = 0)) ((z_eqN (by omega)).mp z)) ?_
            refine r_iload C (i := 12) 6 dL_holds_167 rfl ?_
            refine r_goto C 174 dL_holds_169 (by decide) ?_
            refine r_istore C (lv' := [(9, .int (nI n)), (8, .int (mI fv)), (10, .int (nI (nn + 1))), (13, .int (nI 1)), (3, .int (nI (t + (tak σ n)))), (2, .int (nI (d + (dk σ n)))), (11, .int (nI 1)), (12, .int (nI n)), (7, .int (nI a)), (6, .int (nI (sS σ))), (5, .int (nI 0)), (4, .int (nI 0)), (0, .ref (α 0)), (1, .int (nI x))]) dL_holds_174 (by decide) rfl ?_
            refine r_iinc C (lv' := [(12, .int (nI (n + 1))), (9, .int (nI n)), (8, .int (mI fv)), (10, .int (nI (nn + 1))), (13, .int (nI 1)), (3, .int (nI (t + (tak σ n)))), (2, .int (nI (d + (dk σ n)))), (11, .int (nI 1)), (7, .int (nI a)), (6, .int (nI (sS σ))), (5, .int (nI 0)), (4, .int (nI 0)), (0, .ref (α 0)), (1, .int (nI x))]) (v := nI (n + 1)) 7 dL_holds_176 rfl (v_inc _) (by decide) rfl ?_
            refine r_goto C 58 dL_holds_179 (by decide) ?_
            refine r_lo (lv' := [(12, .int (nI (n + 1))), (9, .int (mI (n + 1))), (8, .int (mI fv)), (10, .int (nI (nn + 1))), (13, .int (nI 1)), (3, .int (nI (t + (tak σ n)))), (2, .int (nI (d + (dk σ n)))), (11, .int (nI 1)), (7, .int (nI a)), (6, .int (nI (sS σ))), (5, .int (nI 0)), (4, .int (nI 0)), (0, .ref (α 0)), (1, .int (nI x))]) (by rw [mI_s]) ?_
            refine r_lv (lv' := [(12, .int (nI (n + 1))), (11, .int (nI 1)), (10, .int (nI (nn + 1))), (9, .int (mI (n + 1))), (8, .int (mI fv)), (7, .int (nI a)), (6, .int (nI (sS σ))), (5, .int (nI 0)), (4, .int (nI 0)), (3, .int (nI (t + (tak σ n)))), (2, .int (nI (d + (dk σ n)))), (0, .ref (α 0)), (1, .int (nI x))]) C [0, 7, 3, 1, 2, 8, 9, 10, 11, 5, 6, 12, 13] rfl ?_
            exact ih7 (n + 1) (d + (dk σ n)) (t + (tak σ n)) (nn + 1) fv (n + 1) w85 (by omega) (by omega) (by rw [hd9]; rfl) (by rw [ht9]; rfl) (by rw [hnn]; exact pc_y hply) (by rw [hfv]; exact pf_n (fun z => by have z2 := z.2; omega)) (pl_y hply) hA86
          · refine r_iload C (i := 12) 5 dL_holds_153 rfl ?_
            refine r_goto C 160 dL_holds_155 (by decide) ?_
            refine r_istore C (lv' := [(8, .int (nI n)), (10, .int (nI (nn + 1))), (13, .int (nI 1)), (3, .int (nI (t + (tak σ n)))), (2, .int (nI (d + (dk σ n)))), (11, .int (nI 1)), (12, .int (nI n)), (9, .int (mI lv)), (7, .int (nI a)), (6, .int (nI (sS σ))), (5, .int (nI 0)), (4, .int (nI 0)), (0, .ref (α 0)), (1, .int (nI x))]) dL_holds_160 (by decide) rfl ?_
            refine r_iload C (i := 13) 2 dL_holds_162 rfl ?_
            refine r_if_eqF C (y := 0) (tgt := 172) dL_holds_164 (by decide) (fun z => ((by decide) : ¬ (1 = 0)) ((z_eqN (by omega)).mp z)) ?_
            refine r_iload C (i := 12) 6 dL_holds_167 rfl ?_
            refine r_goto C 174 dL_holds_169 (by decide) ?_
            refine r_istore C (lv' := [(9, .int (nI n)), (8, .int (nI n)), (10, .int (nI (nn + 1))), (13, .int (nI 1)), (3, .int (nI (t + (tak σ n)))), (2, .int (nI (d + (dk σ n)))), (11, .int (nI 1)), (12, .int (nI n)), (7, .int (nI a)), (6, .int (nI (sS σ))), (5, .int (nI 0)), (4, .int (nI 0)), (0, .ref (α 0)), (1, .int (nI x))]) dL_holds_174 (by decide) rfl ?_
            refine r_iinc C (lv' := [(12, .int (nI (n + 1))), (9, .int (nI n)), (8, .int (nI n)), (10, .int (nI (nn + 1))), (13, .int (nI 1)), (3, .int (nI (t + (tak σ n)))), (2, .int (nI (d + (dk σ n)))), (11, .int (nI 1)), (7, .int (nI a)), (6, .int (nI (sS σ))), (5, .int (nI 0)), (4, .int (nI 0)), (0, .ref (α 0)), (1, .int (nI x))]) (v := nI (n + 1)) 7 dL_holds_176 rfl (v_inc _) (by decide) rfl ?_
            refine r_goto C 58 dL_holds_179 (by decide) ?_
            refine r_lo (lv' := [(12, .int (nI (n + 1))), (9, .int (nI n)), (8, .int (mI (n + 1))), (10, .int (nI (nn + 1))), (13, .int (nI 1)), (3, .int (nI (t + (tak σ n)))), (2, .int (nI (d + (dk σ n)))), (11, .int (nI 1)), (7, .int (nI a)), (6, .int (nI (sS σ))), (5, .int (nI 0)), (4, .int (nI 0)), (0, .ref (α 0)), (1, .int (nI x))]) (by rw [mI_s]) ?_
            refine r_lo (lv' := [(12, .int (nI (n + 1))), (9, .int (mI (n + 1))), (8, .int (mI (n + 1))), (10, .int (nI (nn + 1))), (13, .int (nI 1)), (3, .int (nI (t + (tak σ n)))), (2, .int (nI (d + (dk σ n)))), (11, .int (nI 1)), (7, .int (nI a)), (6, .int (nI (sS σ))), (5, .int (nI 0)), (4, .int (nI 0)), (0, .ref (α 0)), (1, .int (nI x))]) (by rw [mI_s]) ?_
            refine r_lv (lv' := [(12, .int (nI (n + 1))), (11, .int (nI 1)), (10, .int (nI (nn + 1))), (9, .int (mI (n + 1))), (8, .int (mI (n + 1))), (7, .int (nI a)), (6, .int (nI (sS σ))), (5, .int (nI 0)), (4, .int (nI 0)), (3, .int (nI (t + (tak σ n)))), (2, .int (nI (d + (dk σ n)))), (0, .ref (α 0)), (1, .int (nI x))]) C [0, 7, 3, 1, 2, 8, 9, 10, 11, 5, 6, 12, 13] rfl ?_
            exact ih7 (n + 1) (d + (dk σ n)) (t + (tak σ n)) (nn + 1) (n + 1) (n + 1) w85 (by omega) (by omega) (by rw [hd9]; rfl) (by rw [ht9]; rfl) (by rw [hnn]; exact pc_y hply) (pf_y hply (by omega)) (pl_y hply) hA86
  exact loop58_6 _ 0 0 0 0 0 0 w3 (Nat.lt_succ_self _) (by omega) rfl rfl rfl rfl rfl hA4
