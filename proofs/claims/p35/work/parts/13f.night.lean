theorem mI_pos {x : Nat} (h : x ≠ 0) : mI x = nI (x - 1) := by
  obtain ⟨y, rfl⟩ : ∃ y, x = y + 1 := ⟨x - 1, by omega⟩
  rw [mI_s, Nat.add_sub_cancel]
theorem v_shrM {a t : Nat} (ha : a < 2147483648) (h0 : t ≠ 0) (ht : t ≤ 31) : nI a >>> (mI t &&& 31) = nI (a / 2 ^ (t - 1)) := by
  rw [mI_pos h0]; exact v_shr ha (by omega)
theorem v_shlM {t : Nat} (h0 : t ≠ 0) (ht : t ≤ 31) : nI 1 <<< (mI t &&& 31) = nI (2 ^ (t - 1)) := by
  rw [mI_pos h0]; exact v_shl (by omega)
theorem fst2 {E : Ev} {α β : Nat → Nat} {σ1 σ2 τ1 τ2 : Sg} {h1 h2 g1 g2 : Nat → Sg} {c1 c2 d1 d2 : Nat} {k1 k2 m1 m2 : Nat → Sg} {e1 e2 f1 f2 : Nat → Nat} {w w9 v v9 : va_W} (a : Ar E α σ1 h1 c1 k1 e1 w9) (a0 : Ar E α σ2 h2 c2 k2 e2 w) (b : Ar E β τ1 g1 d1 m1 f1 v9) (b0 : Ar E β τ2 g2 d2 m2 f2 v) : (w9 ++ (v9 ++ [])).map Prod.fst = (w ++ (v ++ [])).map Prod.fst := by
  rw [List.map_append, List.map_append, List.map_append, List.map_append, a.fst, a0.fst, b.fst, b0.fst]
set_option maxRecDepth 100000 in
set_option maxHeartbeats 1000000 in
theorem n_night {l : Launch} {E : Ev} (hst : l.stackTraces = false) {α : Nat → Nat} {σ : Sg} {hs : Nat → Sg} {cnt : Nat} {ks : Nat → Sg} {kd : Nat → Nat} {w : va_W} (hA : Ar E α σ hs cnt ks kd w) {n : Nat} (hn : n < 20) : CtN l E yL_night cL_night 14 (some FieldType.boolean) none 10 219 0 [.ref (α 0), .int (nI n)] w (fun v9 w9 => v9 = some (.int (nI 1)) ∧ Ar E α σ hs cnt ks kd w9) := by
  have hW := hA.W
  have hwP := hW.P
  have hwA := hW.A
  have hwS := hW.S
  have hdl := dk_le σ n
  have hbm := bmC_lt hW n
  refine ctn_of (by decide +kernel) (Nat.le_of_ble_eq_true rfl) (fun Ω hB => ?_)
  have C := hB.1 0 (by omega)
  have RT := hB.2.2.1 0 (by omega)
  show Ω 0 w [(0, .ref (α 0)), (1, .int (nI n))] [] 0
  refine r_aload_n C (i := 0) 0 dL_night_0 rfl rfl ?_
  refine r_iconst C dL_night_1 ki_2 ?_
  refine r_iconst C dL_night_2 ki_0 ?_
  refine r_iconst C dL_night_3 ki_0 ?_
  refine r_iconst C dL_night_4 ki_0 ?_
  refine Ca.on hB.2.2.2 hB.2.1 (j := 0) (K := 0) (rest := []) (by omega) (cl_about_0 hst hA  ).l lk_L_call w_2_41 dL_night_5 rfl ⟨by decide, by decide⟩ (Nat.le_of_ble_eq_true rfl) ?_
  rintro _ w1 ⟨rfl, hA2⟩
  show Ω 0 w1 [(0, .ref (α 0)), (1, .int (nI n))] [.int (nI (sP σ))] 8
  refine r_istore_n C (lv' := [(2, .int (nI (sP σ))), (0, .ref (α 0)), (1, .int (nI n))]) dL_night_8 rfl (by decide) rfl ?_
  refine r_aload_n C (i := 0) 1 dL_night_9 rfl rfl ?_
  refine r_iconst C dL_night_10 ki_5 ?_
  refine r_iload_n C (i := 1) 2 dL_night_11 rfl rfl ?_
  refine r_iconst C dL_night_12 ki_0 ?_
  refine r_iconst C dL_night_13 ki_0 ?_
  refine Ca.on hB.2.2.2 hB.2.1 (j := 0) (K := 0) (rest := []) (by omega) (cl_night_0 hst hA2 (n := n) (hn := (by omega))).l lk_L_call w_2_41 dL_night_14 rfl ⟨by decide, by decide⟩ (Nat.le_of_ble_eq_true rfl) ?_
  rintro _ w3 ⟨rfl, hA4⟩
  show Ω 0 w3 [(2, .int (nI (sP σ))), (0, .ref (α 0)), (1, .int (nI n))] [.int (nI (dk σ n))] 17
  refine r_istore_n C (lv' := [(3, .int (nI (dk σ n))), (2, .int (nI (sP σ))), (0, .ref (α 0)), (1, .int (nI n))]) dL_night_17 rfl (by decide) rfl ?_
  refine r_aload_n C (i := 0) 2 dL_night_18 rfl rfl ?_
  refine r_iconst C dL_night_19 ki_5 ?_
  refine r_iload_n C (i := 1) 3 dL_night_20 rfl rfl ?_
  refine r_iconst C dL_night_21 ki_2 ?_
  refine r_iconst C dL_night_22 ki_0 ?_
  refine Ca.on hB.2.2.2 hB.2.1 (j := 0) (K := 0) (rest := []) (by omega) (cl_night_2 hst hA4 (n := n) (hn := (by omega))).l lk_L_call w_2_41 dL_night_23 rfl ⟨by decide, by decide⟩ (Nat.le_of_ble_eq_true rfl) ?_
  rintro _ w5 ⟨rfl, hA6⟩
  show Ω 0 w5 [(3, .int (nI (dk σ n))), (2, .int (nI (sP σ))), (0, .ref (α 0)), (1, .int (nI n))] [.int (nI (bm (fun a => sI σ a n) 10))] 26
  refine r_istore C (lv' := [(4, .int (nI (bm (fun a => sI σ a n) 10))), (3, .int (nI (dk σ n))), (2, .int (nI (sP σ))), (0, .ref (α 0)), (1, .int (nI n))]) dL_night_26 (by decide) rfl ?_
  refine r_iconst C dL_night_28 ki_0 ?_
  refine r_istore C (lv' := [(5, .int (nI 0)), (4, .int (nI (bm (fun a => sI σ a n) 10))), (3, .int (nI (dk σ n))), (2, .int (nI (sP σ))), (0, .ref (α 0)), (1, .int (nI n))]) dL_night_29 (by decide) rfl ?_
  refine r_iconst C dL_night_31 ki_0 ?_
  refine r_istore C (lv' := [(6, .int (nI 0)), (5, .int (nI 0)), (4, .int (nI (bm (fun a => sI σ a n) 10))), (3, .int (nI (dk σ n))), (2, .int (nI (sP σ))), (0, .ref (α 0)), (1, .int (nI n))]) dL_night_32 (by decide) rfl ?_
  refine r_iconst C dL_night_34 ki_0 ?_
  refine r_istore C (lv' := [(7, .int (nI 0)), (6, .int (nI 0)), (5, .int (nI 0)), (4, .int (nI (bm (fun a => sI σ a n) 10))), (3, .int (nI (dk σ n))), (2, .int (nI (sP σ))), (0, .ref (α 0)), (1, .int (nI n))]) dL_night_35 (by decide) rfl ?_
  have join46_7 : ∀ (lo : Nat), (lo = dkN σ n 0) → Ω 0 w5 [(7, .int (nI 0)), (6, .int (nI 0)), (5, .int (nI 0)), (4, .int (nI (bm (fun a => sI σ a n) 10))), (3, .int (nI (dk σ n))), (2, .int (nI (sP σ))), (0, .ref (α 0)), (1, .int (nI n))] [.int (nI lo)] 46 := by
    intro lo hlo
    refine r_istore C (lv' := [(8, .int (nI lo)), (7, .int (nI 0)), (6, .int (nI 0)), (5, .int (nI 0)), (4, .int (nI (bm (fun a => sI σ a n) 10))), (3, .int (nI (dk σ n))), (2, .int (nI (sP σ))), (0, .ref (α 0)), (1, .int (nI n))]) dL_night_46 (by decide) rfl ?_
    refine r_iconst C dL_night_48 ki_1 ?_
    refine r_istore C (lv' := [(9, .int (nI 1)), (8, .int (nI lo)), (7, .int (nI 0)), (6, .int (nI 0)), (5, .int (nI 0)), (4, .int (nI (bm (fun a => sI σ a n) 10))), (3, .int (nI (dk σ n))), (2, .int (nI (sP σ))), (0, .ref (α 0)), (1, .int (nI n))]) dL_night_49 (by decide) rfl ?_
    refine r_iconst C dL_night_51 ki_0 ?_
    refine r_istore C (lv' := [(10, .int (nI 0)), (9, .int (nI 1)), (8, .int (nI lo)), (7, .int (nI 0)), (6, .int (nI 0)), (5, .int (nI 0)), (4, .int (nI (bm (fun a => sI σ a n) 10))), (3, .int (nI (dk σ n))), (2, .int (nI (sP σ))), (0, .ref (α 0)), (1, .int (nI n))]) dL_night_52 (by decide) rfl ?_
    have loop54_9 : ∀ (dd9 : Nat) (p : Nat) (sv : Nat) (ov : Nat) (fv : Nat) (lv : Nat) (wL80 : va_W), sP σ - p < dd9 → (p ≤ sP σ) → (sv = us σ n p) → (ov = otN σ n p) → (fv = fam σ n p) → (lv = dkN σ n p) → (Ar E α σ hs cnt ks kd wL80) → Ω 0 wL80 [(10, .int (nI p)), (9, .int (nI 1)), (8, .int (nI lv)), (7, .int (nI fv)), (6, .int (nI ov)), (5, .int (nI sv)), (4, .int (nI (bm (fun a => sI σ a n) 10))), (3, .int (nI (dk σ n))), (2, .int (nI (sP σ))), (0, .ref (α 0)), (1, .int (nI n))] [] 54 := by
      intro dd9
      induction dd9 with
      | zero => intro p sv ov fv lv wL80 hd; exact absurd hd (Nat.not_lt_zero _)
      | succ dd9 ih10 =>
        intro p sv ov fv lv wL80 hd hp hSv ho hf hl hAL80
        refine r_iload C (i := 10) 0 dL_night_54 rfl ?_
        refine r_iload_n C (i := 2) 8 dL_night_56 rfl rfl ?_
        refine r_icmp_ge C (c9 := sP σ ≤ p) 346 dL_night_57 (by decide) (c_leNN (by omega) (by omega)) (fun h57_11 => ?_) (fun h57_11 => ?_)
        · obtain rfl : p = sP σ := by omega
          have hdk := nt_dk σ n
          have hsv9 : sv < 1024 := by rw [hSv]; exact us_lt hW hn (Nat.le_refl _)
          have hov9 := otN_le σ n (sP σ)
          have hpl := plr_lt hW hn
          have hok : otk σ n ≤ sP σ := by unfold otk; split; exact otN_le _ _ _; omega
          have htk := tak_le hW hn
          have hmul : sO σ 1 * fv ≤ 9 * 54 := Nat.mul_le_mul hW.O1 (by have := fam_le hW hn (Nat.le_refl (sP σ)); omega)
          have hall : sO σ 0 + sO σ 1 * fv < 2147483648 := by have := hW.O0; omega
          have hO0 := hW.O0
          have hO1 := hW.O1
          have hdv : lv = dk σ n := by omega
          refine r_iload C (i := 9) 1 dL_night_346 rfl ?_
          refine r_if_eqF C (y := 0) (tgt := 456) dL_night_348 (by decide) (fun z => ((by decide) : ¬ (1 = 0)) ((z_eqN (by omega)).mp z)) ?_
          refine r_iload C (i := 8) 2 dL_night_351 rfl ?_
          refine r_iload_n C (i := 3) 7 dL_night_353 rfl rfl ?_
          refine r_iconst C dL_night_354 ki_1 ?_
          refine r_icmp_ne C (c9 := dk σ n ≠ 1) 362 dL_night_355 (by decide) (c_neNN (by omega) (by omega)) (fun h355_12 => ?_) (fun h355_12 => ?_)
          · refine r_iconst C dL_night_362 ki_0 ?_
            refine r_icmp_neF C (tgt := 456) dL_night_363 (by decide) (fun z => ((by omega) : ¬ (lv ≠ 0)) ((c_neNN (by omega) (by omega)).mp z)) ?_
            refine r_aload_n C (i := 0) 9 dL_night_366 rfl rfl ?_
            refine r_iconst C dL_night_367 ki_5 ?_
            refine r_iload_n C (i := 1) 10 dL_night_368 rfl rfl ?_
            refine r_iconst C dL_night_369 ki_3 ?_
            refine r_iconst C dL_night_370 ki_0 ?_
            refine Ca.on hB.2.2.2 hB.2.1 (j := 0) (K := 0) (rest := []) (by omega) (cl_night_3 hst hAL80 (n := n) (hn := (by omega))).l lk_L_call w_2_41 dL_night_371 rfl ⟨by decide, by decide⟩ (Nat.le_of_ble_eq_true rfl) ?_
            rintro _ w13 ⟨rfl, hA14⟩
            show Ω 0 w13 [(10, .int (nI (sP σ))), (9, .int (nI 1)), (8, .int (nI lv)), (7, .int (nI fv)), (6, .int (nI ov)), (5, .int (nI sv)), (4, .int (nI (bm (fun a => sI σ a n) 10))), (3, .int (nI (dk σ n))), (2, .int (nI (sP σ))), (0, .ref (α 0)), (1, .int (nI n))] [.int (nI (plr σ n))] 374
            refine r_iload_n C (i := 3) 7 dL_night_374 rfl rfl ?_
            refine r_iconst C dL_night_375 ki_1 ?_
            refine r_icmp_neT C 383 dL_night_376 (by decide) ((c_neNN (by omega) (by omega)).mpr h355_12) ?_
            refine r_iload C (i := 5) 5 dL_night_383 rfl ?_
            refine r_icmp_neF C (tgt := 456) dL_night_385 (by decide) (fun z => ((fun z => z (by rw [hSv]; exact nt_p0 (by omega))) : ¬ (plr σ n ≠ sv)) ((c_neNN (by omega) (by omega)).mp z)) ?_
            refine r_aload_n C (i := 0) 9 dL_night_388 rfl rfl ?_
            refine r_iconst C dL_night_389 ki_5 ?_
            refine r_iload_n C (i := 1) 10 dL_night_390 rfl rfl ?_
            refine r_iconst C dL_night_391 ki_4 ?_
            refine r_iconst C dL_night_392 ki_0 ?_
            refine Ca.on hB.2.2.2 hB.2.1 (j := 0) (K := 0) (rest := []) (by omega) (cl_night_4 hst hA14 (n := n) (hn := (by omega))).l lk_L_call w_2_41 dL_night_393 rfl ⟨by decide, by decide⟩ (Nat.le_of_ble_eq_true rfl) ?_
            rintro _ w15 ⟨rfl, hA16⟩
            show Ω 0 w15 [(10, .int (nI (sP σ))), (9, .int (nI 1)), (8, .int (nI lv)), (7, .int (nI fv)), (6, .int (nI ov)), (5, .int (nI sv)), (4, .int (nI (bm (fun a => sI σ a n) 10))), (3, .int (nI (dk σ n))), (2, .int (nI (sP σ))), (0, .ref (α 0)), (1, .int (nI n))] [.int (nI (otk σ n))] 396
            refine r_iload_n C (i := 3) 7 dL_night_396 rfl rfl ?_
            refine r_iconst C dL_night_397 ki_1 ?_
            refine r_icmp_neT C 405 dL_night_398 (by decide) ((c_neNN (by omega) (by omega)).mpr h355_12) ?_
            refine r_iload C (i := 6) 4 dL_night_405 rfl ?_
            refine r_icmp_neF C (tgt := 456) dL_night_407 (by decide) (fun z => ((fun z => z (by rw [ho]; exact nt_k0 (by omega))) : ¬ (otk σ n ≠ ov)) ((c_neNN (by omega) (by omega)).mp z)) ?_
            refine r_aload_n C (i := 0) 9 dL_night_410 rfl rfl ?_
            refine r_iconst C dL_night_411 ki_5 ?_
            refine r_iload_n C (i := 1) 10 dL_night_412 rfl rfl ?_
            refine r_iconst C dL_night_413 ki_1 ?_
            refine r_iconst C dL_night_414 ki_0 ?_
            refine Ca.on hB.2.2.2 hB.2.1 (j := 0) (K := 0) (rest := []) (by omega) (cl_night_1 hst hA16 (n := n) (hn := (by omega))).l lk_L_call w_2_41 dL_night_415 rfl ⟨by decide, by decide⟩ (Nat.le_of_ble_eq_true rfl) ?_
            rintro _ w17 ⟨rfl, hA18⟩
            show Ω 0 w17 [(10, .int (nI (sP σ))), (9, .int (nI 1)), (8, .int (nI lv)), (7, .int (nI fv)), (6, .int (nI ov)), (5, .int (nI sv)), (4, .int (nI (bm (fun a => sI σ a n) 10))), (3, .int (nI (dk σ n))), (2, .int (nI (sP σ))), (0, .ref (α 0)), (1, .int (nI n))] [.int (nI (tak σ n))] 418
            refine r_iload_n C (i := 3) 7 dL_night_418 rfl rfl ?_
            refine r_iconst C dL_night_419 ki_1 ?_
            refine r_icmp_neT C 427 dL_night_420 (by decide) ((c_neNN (by omega) (by omega)).mpr h355_12) ?_
            refine r_aload_n C (i := 0) 9 dL_night_427 rfl rfl ?_
            refine r_bipush C dL_night_428 kb_9 ?_
            refine r_iconst C dL_night_430 ki_0 ?_
            refine r_iconst C dL_night_431 ki_0 ?_
            refine r_iconst C dL_night_432 ki_0 ?_
            refine Ca.on hB.2.2.2 hB.2.1 (j := 0) (K := 0) (rest := [.int (nI (tak σ n))]) (by omega) (cl_setting hst hA18 (k := 0) (hk := (by omega))).l lk_L_call w_2_41 dL_night_433 rfl ⟨by decide, by decide⟩ (Nat.le_of_ble_eq_true rfl) ?_
            rintro _ w19 ⟨rfl, hA20⟩
            show Ω 0 w19 [(10, .int (nI (sP σ))), (9, .int (nI 1)), (8, .int (nI lv)), (7, .int (nI fv)), (6, .int (nI ov)), (5, .int (nI sv)), (4, .int (nI (bm (fun a => sI σ a n) 10))), (3, .int (nI (dk σ n))), (2, .int (nI (sP σ))), (0, .ref (α 0)), (1, .int (nI n))] [.int (nI (sO σ 0)), .int (nI (tak σ n))] 436
            refine r_aload_n C (i := 0) 9 dL_night_436 rfl rfl ?_
            refine r_bipush C dL_night_437 kb_9 ?_
            refine r_iconst C dL_night_439 ki_1 ?_
            refine r_iconst C dL_night_440 ki_0 ?_
            refine r_iconst C dL_night_441 ki_0 ?_
            refine Ca.on hB.2.2.2 hB.2.1 (j := 0) (K := 0) (rest := [.int (nI (sO σ 0)), .int (nI (tak σ n))]) (by omega) (cl_setting hst hA20 (k := 1) (hk := (by omega))).l lk_L_call w_2_41 dL_night_442 rfl ⟨by decide, by decide⟩ (Nat.le_of_ble_eq_true rfl) ?_
            rintro _ w21 ⟨rfl, hA22⟩
            show Ω 0 w21 [(10, .int (nI (sP σ))), (9, .int (nI 1)), (8, .int (nI lv)), (7, .int (nI fv)), (6, .int (nI ov)), (5, .int (nI sv)), (4, .int (nI (bm (fun a => sI σ a n) 10))), (3, .int (nI (dk σ n))), (2, .int (nI (sP σ))), (0, .ref (α 0)), (1, .int (nI n))] [.int (nI (sO σ 1)), .int (nI (sO σ 0)), .int (nI (tak σ n))] 445
            refine r_iload C (i := 7) 3 dL_night_445 rfl ?_
            refine r_imul (v := nI ((sO σ 1) * fv)) C dL_night_447 (pk_mul _ _) ?_
            refine r_iadd (v := nI ((sO σ 0) + ((sO σ 1) * fv))) C dL_night_448 (nI_add _ _) ?_
            refine r_icmp_neF C (tgt := 456) dL_night_449 (by decide) (fun z => ((fun z => z (by rw [hf]; exact nt_t0 (by omega))) : ¬ (tak σ n ≠ (sO σ 0) + ((sO σ 1) * fv))) ((c_neNN (by omega) (by omega)).mp z)) ?_
            refine r_iconst C dL_night_452 ki_1 ?_
            refine r_goto C 457 dL_night_453 (by decide) ?_
            exact RT.1 _ _ _ _ _ dL_night_457 rfl nar_1 (⟨rfl, hA22⟩) (hA22.fst.trans hA.fst.symm)
          · refine r_iconst C dL_night_358 ki_1 ?_
            refine r_goto C 363 dL_night_359 (by decide) ?_
            refine r_icmp_neF C (tgt := 456) dL_night_363 (by decide) (fun z => ((by omega) : ¬ (lv ≠ 1)) ((c_neNN (by omega) (by omega)).mp z)) ?_
            refine r_aload_n C (i := 0) 9 dL_night_366 rfl rfl ?_
            refine r_iconst C dL_night_367 ki_5 ?_
            refine r_iload_n C (i := 1) 10 dL_night_368 rfl rfl ?_
            refine r_iconst C dL_night_369 ki_3 ?_
            refine r_iconst C dL_night_370 ki_0 ?_
            refine Ca.on hB.2.2.2 hB.2.1 (j := 0) (K := 0) (rest := []) (by omega) (cl_night_3 hst hAL80 (n := n) (hn := (by omega))).l lk_L_call w_2_41 dL_night_371 rfl ⟨by decide, by decide⟩ (Nat.le_of_ble_eq_true rfl) ?_
            rintro _ w23 ⟨rfl, hA24⟩
            show Ω 0 w23 [(10, .int (nI (sP σ))), (9, .int (nI 1)), (8, .int (nI lv)), (7, .int (nI fv)), (6, .int (nI ov)), (5, .int (nI sv)), (4, .int (nI (bm (fun a => sI σ a n) 10))), (3, .int (nI (dk σ n))), (2, .int (nI (sP σ))), (0, .ref (α 0)), (1, .int (nI n))] [.int (nI (plr σ n))] 374
            refine r_iload_n C (i := 3) 7 dL_night_374 rfl rfl ?_
            refine r_iconst C dL_night_375 ki_1 ?_
            refine r_icmp_neF C (tgt := 383) dL_night_376 (by decide) (fun z => (h355_12 : ¬ (dk σ n ≠ 1)) ((c_neNN (by omega) (by omega)).mp z)) ?_
            refine r_iconst C dL_night_379 ki_0 ?_
            refine r_goto C 385 dL_night_380 (by decide) ?_
            refine r_icmp_neF C (tgt := 456) dL_night_385 (by decide) (fun z => ((fun z => z (nt_p1 (by omega))) : ¬ (plr σ n ≠ 0)) ((c_neNN (by omega) (by omega)).mp z)) ?_
            refine r_aload_n C (i := 0) 9 dL_night_388 rfl rfl ?_
            refine r_iconst C dL_night_389 ki_5 ?_
            refine r_iload_n C (i := 1) 10 dL_night_390 rfl rfl ?_
            refine r_iconst C dL_night_391 ki_4 ?_
            refine r_iconst C dL_night_392 ki_0 ?_
            refine Ca.on hB.2.2.2 hB.2.1 (j := 0) (K := 0) (rest := []) (by omega) (cl_night_4 hst hA24 (n := n) (hn := (by omega))).l lk_L_call w_2_41 dL_night_393 rfl ⟨by decide, by decide⟩ (Nat.le_of_ble_eq_true rfl) ?_
            rintro _ w25 ⟨rfl, hA26⟩
            show Ω 0 w25 [(10, .int (nI (sP σ))), (9, .int (nI 1)), (8, .int (nI lv)), (7, .int (nI fv)), (6, .int (nI ov)), (5, .int (nI sv)), (4, .int (nI (bm (fun a => sI σ a n) 10))), (3, .int (nI (dk σ n))), (2, .int (nI (sP σ))), (0, .ref (α 0)), (1, .int (nI n))] [.int (nI (otk σ n))] 396
            refine r_iload_n C (i := 3) 7 dL_night_396 rfl rfl ?_
            refine r_iconst C dL_night_397 ki_1 ?_
            refine r_icmp_neF C (tgt := 405) dL_night_398 (by decide) (fun z => (h355_12 : ¬ (dk σ n ≠ 1)) ((c_neNN (by omega) (by omega)).mp z)) ?_
            refine r_iconst C dL_night_401 ki_0 ?_
            refine r_goto C 407 dL_night_402 (by decide) ?_
            refine r_icmp_neF C (tgt := 456) dL_night_407 (by decide) (fun z => ((fun z => z (nt_k1 (by omega))) : ¬ (otk σ n ≠ 0)) ((c_neNN (by omega) (by omega)).mp z)) ?_
            refine r_aload_n C (i := 0) 9 dL_night_410 rfl rfl ?_
            refine r_iconst C dL_night_411 ki_5 ?_
            refine r_iload_n C (i := 1) 10 dL_night_412 rfl rfl ?_
            refine r_iconst C dL_night_413 ki_1 ?_
            refine r_iconst C dL_night_414 ki_0 ?_
            refine Ca.on hB.2.2.2 hB.2.1 (j := 0) (K := 0) (rest := []) (by omega) (cl_night_1 hst hA26 (n := n) (hn := (by omega))).l lk_L_call w_2_41 dL_night_415 rfl ⟨by decide, by decide⟩ (Nat.le_of_ble_eq_true rfl) ?_
            rintro _ w27 ⟨rfl, hA28⟩
            show Ω 0 w27 [(10, .int (nI (sP σ))), (9, .int (nI 1)), (8, .int (nI lv)), (7, .int (nI fv)), (6, .int (nI ov)), (5, .int (nI sv)), (4, .int (nI (bm (fun a => sI σ a n) 10))), (3, .int (nI (dk σ n))), (2, .int (nI (sP σ))), (0, .ref (α 0)), (1, .int (nI n))] [.int (nI (tak σ n))] 418
            refine r_iload_n C (i := 3) 7 dL_night_418 rfl rfl ?_
            refine r_iconst C dL_night_419 ki_1 ?_
            refine r_icmp_neF C (tgt := 427) dL_night_420 (by decide) (fun z => (h355_12 : ¬ (dk σ n ≠ 1)) ((c_neNN (by omega) (by omega)).mp z)) ?_
            refine r_iconst C dL_night_423 ki_0 ?_
            refine r_goto C 449 dL_night_424 (by decide) ?_
            refine r_icmp_neF C (tgt := 456) dL_night_449 (by decide) (fun z => ((fun z => z (nt_t1 (by omega))) : ¬ (tak σ n ≠ 0)) ((c_neNN (by omega) (by omega)).mp z)) ?_
            refine r_iconst C dL_night_452 ki_1 ?_
            refine r_goto C 457 dL_night_453 (by decide) ?_
            exact RT.1 _ _ _ _ _ dL_night_457 rfl nar_1 (⟨rfl, hA28⟩) (hA28.fst.trans hA.fst.symm)
        · have hpp : p < sP σ := by omega
          have hTl := T_le hW hpp hn
          have hRl := hW.R hpp hn
          have hus : sv < 1024 := by rw [hSv]; exact us_lt hW hn hp
          have hw0 := nt_why0 (σ := σ) (n := n) (p := p)
          have hwl := why_le σ n p (us σ n p)
          have hwl : Wy σ n p ≤ 3 := hwl
          have hsl := slC_le σ n p (sS σ)
          have hd1 := dkN_le σ n p
          have hfl := fam_le hW hn hp
          have hol := otN_le σ n p
          have hpTl := pT_le hW hpp hn
          have hFa := fun a (h : a < sA σ) => hW.F h
          refine r_iload C (i := 9) 1 dL_night_60 rfl ?_
          refine r_if_eqF C (y := 0) (tgt := 346) dL_night_62 (by decide) (fun z => ((by decide) : ¬ (1 = 0)) ((z_eqN (by omega)).mp z)) ?_
          refine r_aload_n C (i := 0) 9 dL_night_65 rfl rfl ?_
          refine r_iconst C dL_night_66 ki_4 ?_
          refine r_iload_n C (i := 1) 10 dL_night_67 rfl rfl ?_
          refine r_iload C (i := 10) 0 dL_night_68 rfl ?_
          refine r_iconst C dL_night_70 ki_1 ?_
          refine Ca.on hB.2.2.2 hB.2.1 (j := 0) (K := 0) (rest := []) (by omega) (cl_bill_1 hst hAL80 (n := n) (p := p) (hn := (by omega)) (hp := (by omega))).l lk_L_call w_2_41 dL_night_71 rfl ⟨by decide, by decide⟩ (Nat.le_of_ble_eq_true rfl) ?_
          rintro _ w29 ⟨rfl, hA30⟩
          show Ω 0 w29 [(10, .int (nI p)), (9, .int (nI 1)), (8, .int (nI lv)), (7, .int (nI fv)), (6, .int (nI ov)), (5, .int (nI sv)), (4, .int (nI (bm (fun a => sI σ a n) 10))), (3, .int (nI (dk σ n))), (2, .int (nI (sP σ))), (0, .ref (α 0)), (1, .int (nI n))] [.int (mI (T σ n p))] 74
          refine r_istore C (lv' := [(11, .int (mI (T σ n p))), (10, .int (nI p)), (9, .int (nI 1)), (8, .int (nI lv)), (7, .int (nI fv)), (6, .int (nI ov)), (5, .int (nI sv)), (4, .int (nI (bm (fun a => sI σ a n) 10))), (3, .int (nI (dk σ n))), (2, .int (nI (sP σ))), (0, .ref (α 0)), (1, .int (nI n))]) dL_night_74 (by decide) rfl ?_
          refine r_aload_n C (i := 0) 10 dL_night_76 rfl rfl ?_
          refine r_iconst C dL_night_77 ki_4 ?_
          refine r_iload_n C (i := 1) 11 dL_night_78 rfl rfl ?_
          refine r_iload C (i := 10) 1 dL_night_79 rfl ?_
          refine r_iconst C dL_night_81 ki_2 ?_
          refine Ca.on hB.2.2.2 hB.2.1 (j := 0) (K := 0) (rest := []) (by omega) (cl_bill_2 hst hA30 (n := n) (p := p) (hn := (by omega)) (hp := (by omega))).l lk_L_call w_2_41 dL_night_82 rfl ⟨by decide, by decide⟩ (Nat.le_of_ble_eq_true rfl) ?_
          rintro _ w31 ⟨rfl, hA32⟩
          show Ω 0 w31 [(11, .int (mI (T σ n p))), (10, .int (nI p)), (9, .int (nI 1)), (8, .int (nI lv)), (7, .int (nI fv)), (6, .int (nI ov)), (5, .int (nI sv)), (4, .int (nI (bm (fun a => sI σ a n) 10))), (3, .int (nI (dk σ n))), (2, .int (nI (sP σ))), (0, .ref (α 0)), (1, .int (nI n))] [.int (nI (Wy σ n p))] 85
          refine r_istore C (lv' := [(12, .int (nI (Wy σ n p))), (11, .int (mI (T σ n p))), (10, .int (nI p)), (9, .int (nI 1)), (8, .int (nI lv)), (7, .int (nI fv)), (6, .int (nI ov)), (5, .int (nI sv)), (4, .int (nI (bm (fun a => sI σ a n) 10))), (3, .int (nI (dk σ n))), (2, .int (nI (sP σ))), (0, .ref (α 0)), (1, .int (nI n))]) dL_night_85 (by decide) rfl ?_
          refine r_aload_n C (i := 0) 11 dL_night_87 rfl rfl ?_
          refine r_iconst C dL_night_88 ki_4 ?_
          refine r_iload_n C (i := 1) 12 dL_night_89 rfl rfl ?_
          refine r_iload C (i := 10) 2 dL_night_90 rfl ?_
          refine r_iconst C dL_night_92 ki_0 ?_
          refine Ca.on hB.2.2.2 hB.2.1 (j := 0) (K := 0) (rest := []) (by omega) (cl_bill_0 hst hA32 (n := n) (p := p) (hn := (by omega)) (hp := (by omega))).l lk_L_call w_2_41 dL_night_93 rfl ⟨by decide, by decide⟩ (Nat.le_of_ble_eq_true rfl) ?_
          rintro _ w33 ⟨rfl, hA34⟩
          show Ω 0 w33 [(12, .int (nI (Wy σ n p))), (11, .int (mI (T σ n p))), (10, .int (nI p)), (9, .int (nI 1)), (8, .int (nI lv)), (7, .int (nI fv)), (6, .int (nI ov)), (5, .int (nI sv)), (4, .int (nI (bm (fun a => sI σ a n) 10))), (3, .int (nI (dk σ n))), (2, .int (nI (sP σ))), (0, .ref (α 0)), (1, .int (nI n))] [.int (mI (sR σ p n))] 96
          refine r_istore C (lv' := [(13, .int (mI (sR σ p n))), (12, .int (nI (Wy σ n p))), (11, .int (mI (T σ n p))), (10, .int (nI p)), (9, .int (nI 1)), (8, .int (nI lv)), (7, .int (nI fv)), (6, .int (nI ov)), (5, .int (nI sv)), (4, .int (nI (bm (fun a => sI σ a n) 10))), (3, .int (nI (dk σ n))), (2, .int (nI (sP σ))), (0, .ref (α 0)), (1, .int (nI n))]) dL_night_96 (by decide) rfl ?_
          have join207_35 : ∀ (wJ207_0 : va_W), (Ar E α σ hs cnt ks kd wJ207_0) → Ω 0 wJ207_0 [(13, .int (mI (sR σ p n))), (12, .int (nI (Wy σ n p))), (11, .int (mI (T σ n p))), (10, .int (nI p)), (9, .int (nI 1)), (8, .int (nI lv)), (7, .int (nI fv)), (6, .int (nI ov)), (5, .int (nI sv)), (4, .int (nI (bm (fun a => sI σ a n) 10))), (3, .int (nI (dk σ n))), (2, .int (nI (sP σ))), (0, .ref (α 0)), (1, .int (nI n))] [.int (nI 1)] 207 := by
            intro wJ207_0 hJ207_0
            refine r_istore C (lv' := [(9, .int (nI 1)), (13, .int (mI (sR σ p n))), (12, .int (nI (Wy σ n p))), (11, .int (mI (T σ n p))), (10, .int (nI p)), (8, .int (nI lv)), (7, .int (nI fv)), (6, .int (nI ov)), (5, .int (nI sv)), (4, .int (nI (bm (fun a => sI σ a n) 10))), (3, .int (nI (dk σ n))), (2, .int (nI (sP σ))), (0, .ref (α 0)), (1, .int (nI n))]) dL_night_207 (by decide) rfl ?_
            have join259_36 : Ω 0 wJ207_0 [(9, .int (nI 1)), (13, .int (mI (sR σ p n))), (12, .int (nI (Wy σ n p))), (11, .int (mI (T σ n p))), (10, .int (nI p)), (8, .int (nI lv)), (7, .int (nI fv)), (6, .int (nI ov)), (5, .int (nI sv)), (4, .int (nI (bm (fun a => sI σ a n) 10))), (3, .int (nI (dk σ n))), (2, .int (nI (sP σ))), (0, .ref (α 0)), (1, .int (nI n))] [.int (nI 1)] 259 := by
              refine r_istore C (lv' := [(9, .int (nI 1)), (13, .int (mI (sR σ p n))), (12, .int (nI (Wy σ n p))), (11, .int (mI (T σ n p))), (10, .int (nI p)), (8, .int (nI lv)), (7, .int (nI fv)), (6, .int (nI ov)), (5, .int (nI sv)), (4, .int (nI (bm (fun a => sI σ a n) 10))), (3, .int (nI (dk σ n))), (2, .int (nI (sP σ))), (0, .ref (α 0)), (1, .int (nI n))]) dL_night_259 (by decide) rfl ?_
              have join277_37 : ∀ (l2 : Nat), (l2 = dkN σ n (p + 1)) → Ω 0 wJ207_0 [(9, .int (nI 1)), (13, .int (mI (sR σ p n))), (12, .int (nI (Wy σ n p))), (11, .int (mI (T σ n p))), (10, .int (nI p)), (8, .int (nI lv)), (7, .int (nI fv)), (6, .int (nI ov)), (5, .int (nI sv)), (4, .int (nI (bm (fun a => sI σ a n) 10))), (3, .int (nI (dk σ n))), (2, .int (nI (sP σ))), (0, .ref (α 0)), (1, .int (nI n))] [.int (nI l2)] 277 := by
                intro l2 hlx
                refine r_istore C (lv' := [(8, .int (nI l2)), (9, .int (nI 1)), (13, .int (mI (sR σ p n))), (12, .int (nI (Wy σ n p))), (11, .int (mI (T σ n p))), (10, .int (nI p)), (7, .int (nI fv)), (6, .int (nI ov)), (5, .int (nI sv)), (4, .int (nI (bm (fun a => sI σ a n) 10))), (3, .int (nI (dk σ n))), (2, .int (nI (sP σ))), (0, .ref (α 0)), (1, .int (nI n))]) dL_night_277 (by decide) rfl ?_
                have join295_38 : ∀ (sx : Nat), (sv ||| sx = us σ n (p + 1)) → Ω 0 wJ207_0 [(8, .int (nI l2)), (9, .int (nI 1)), (13, .int (mI (sR σ p n))), (12, .int (nI (Wy σ n p))), (11, .int (mI (T σ n p))), (10, .int (nI p)), (7, .int (nI fv)), (6, .int (nI ov)), (5, .int (nI sv)), (4, .int (nI (bm (fun a => sI σ a n) 10))), (3, .int (nI (dk σ n))), (2, .int (nI (sP σ))), (0, .ref (α 0)), (1, .int (nI n))] [.int (nI sx), .int (nI sv)] 295 := by
                  intro sx hsx
                  refine r_ior (v := nI (sv ||| sx)) C dL_night_295 (v_or _ _) ?_
                  refine r_istore C (lv' := [(5, .int (nI (sv ||| sx))), (8, .int (nI l2)), (9, .int (nI 1)), (13, .int (mI (sR σ p n))), (12, .int (nI (Wy σ n p))), (11, .int (mI (T σ n p))), (10, .int (nI p)), (7, .int (nI fv)), (6, .int (nI ov)), (4, .int (nI (bm (fun a => sI σ a n) 10))), (3, .int (nI (dk σ n))), (2, .int (nI (sP σ))), (0, .ref (α 0)), (1, .int (nI n))]) dL_night_296 (by decide) rfl ?_
                  have join312_39 : ∀ (ox : Nat), (ov + ox = otN σ n (p + 1)) → Ω 0 wJ207_0 [(5, .int (nI (sv ||| sx))), (8, .int (nI l2)), (9, .int (nI 1)), (13, .int (mI (sR σ p n))), (12, .int (nI (Wy σ n p))), (11, .int (mI (T σ n p))), (10, .int (nI p)), (7, .int (nI fv)), (6, .int (nI ov)), (4, .int (nI (bm (fun a => sI σ a n) 10))), (3, .int (nI (dk σ n))), (2, .int (nI (sP σ))), (0, .ref (α 0)), (1, .int (nI n))] [.int (nI ox), .int (nI ov)] 312 := by
                    intro ox hox
                    refine r_iadd (v := nI (ov + ox)) C dL_night_312 (nI_add _ _) ?_
                    refine r_istore C (lv' := [(6, .int (nI (ov + ox))), (5, .int (nI (sv ||| sx))), (8, .int (nI l2)), (9, .int (nI 1)), (13, .int (mI (sR σ p n))), (12, .int (nI (Wy σ n p))), (11, .int (mI (T σ n p))), (10, .int (nI p)), (7, .int (nI fv)), (4, .int (nI (bm (fun a => sI σ a n) 10))), (3, .int (nI (dk σ n))), (2, .int (nI (sP σ))), (0, .ref (α 0)), (1, .int (nI n))]) dL_night_313 (by decide) rfl ?_
                    have join337_40 : ∀ (fx : Nat) (wJ337_0 : va_W), (fv + fx = fam σ n (p + 1)) → (Ar E α σ hs cnt ks kd wJ337_0) → Ω 0 wJ337_0 [(6, .int (nI (ov + ox))), (5, .int (nI (sv ||| sx))), (8, .int (nI l2)), (9, .int (nI 1)), (13, .int (mI (sR σ p n))), (12, .int (nI (Wy σ n p))), (11, .int (mI (T σ n p))), (10, .int (nI p)), (7, .int (nI fv)), (4, .int (nI (bm (fun a => sI σ a n) 10))), (3, .int (nI (dk σ n))), (2, .int (nI (sP σ))), (0, .ref (α 0)), (1, .int (nI n))] [.int (nI fx), .int (nI fv)] 337 := by
                      intro fx wJ337_0 hfx hJ337_0
                      refine r_iadd (v := nI (fv + fx)) C dL_night_337 (nI_add _ _) ?_
                      refine r_istore C (lv' := [(7, .int (nI (fv + fx))), (6, .int (nI (ov + ox))), (5, .int (nI (sv ||| sx))), (8, .int (nI l2)), (9, .int (nI 1)), (13, .int (mI (sR σ p n))), (12, .int (nI (Wy σ n p))), (11, .int (mI (T σ n p))), (10, .int (nI p)), (4, .int (nI (bm (fun a => sI σ a n) 10))), (3, .int (nI (dk σ n))), (2, .int (nI (sP σ))), (0, .ref (α 0)), (1, .int (nI n))]) dL_night_338 (by decide) rfl ?_
                      refine r_iinc C (lv' := [(10, .int (nI (p + 1))), (7, .int (nI (fv + fx))), (6, .int (nI (ov + ox))), (5, .int (nI (sv ||| sx))), (8, .int (nI l2)), (9, .int (nI 1)), (13, .int (mI (sR σ p n))), (12, .int (nI (Wy σ n p))), (11, .int (mI (T σ n p))), (4, .int (nI (bm (fun a => sI σ a n) 10))), (3, .int (nI (dk σ n))), (2, .int (nI (sP σ))), (0, .ref (α 0)), (1, .int (nI n))]) (v := nI (p + 1)) 8 dL_night_340 rfl (v_inc _) (by decide) rfl ?_
                      refine r_goto C 54 dL_night_343 (by decide) ?_
                      refine r_lv (lv' := [(10, .int (nI (p + 1))), (9, .int (nI 1)), (8, .int (nI l2)), (7, .int (nI (fv + fx))), (6, .int (nI (ov + ox))), (5, .int (nI (sv ||| sx))), (4, .int (nI (bm (fun a => sI σ a n) 10))), (3, .int (nI (dk σ n))), (2, .int (nI (sP σ))), (0, .ref (α 0)), (1, .int (nI n))]) C [0, 5, 4, 1, 2, 3, 9, 10, 11, 12, 13] rfl ?_
                      exact ih10 (p + 1) (sv ||| sx) (ov + ox) (fv + fx) l2 wJ337_0 (by omega) (by omega) hsx hox hfx hlx hJ337_0
                    refine r_iload C (i := 7) 8 dL_night_315 rfl ?_
                    refine r_iload C (i := 11) 6 dL_night_317 rfl ?_
                    refine r_iconst C dL_night_319 ki_m1 ?_
                    refine r_icmp_ne C (c9 := T σ n p ≠ 0) 327 dL_night_320 (by decide) (c_neMM (by omega) (by omega)) (fun h320_41 => ?_) (fun h320_41 => ?_)
                    · refine r_aload_n C (i := 0) 12 dL_night_327 rfl rfl ?_
                      refine r_bipush C dL_night_328 kb_6 ?_
                      refine r_iload C (i := 11) 6 dL_night_330 rfl ?_
                      refine r_iconst C dL_night_332 ki_0 ?_
                      refine r_iconst C dL_night_333 ki_0 ?_
                      refine r_st (st' := [.int (nI 0), .int (nI 0), .int (nI ((T σ n p) - 1)), .int (nI 6), .ref (α 0), .int (nI fv)]) (by rw [mI_pos (by omega : (T σ n p) ≠ 0)]) ?_
                      refine Ca.on hB.2.2.2 hB.2.1 (j := 0) (K := 0) (rest := [.int (nI fv)]) (by omega) (cl_actor_0 hst hJ207_0 (a := (T σ n p) - 1) (ha := (by omega))).l lk_L_call w_2_41 dL_night_334 rfl ⟨by decide, by decide⟩ (Nat.le_of_ble_eq_true rfl) ?_
                      rintro _ w42 ⟨rfl, hA43⟩
                      show Ω 0 w42 [(6, .int (nI (ov + ox))), (5, .int (nI (sv ||| sx))), (8, .int (nI l2)), (9, .int (nI 1)), (13, .int (mI (sR σ p n))), (12, .int (nI (Wy σ n p))), (11, .int (mI (T σ n p))), (10, .int (nI p)), (7, .int (nI fv)), (4, .int (nI (bm (fun a => sI σ a n) 10))), (3, .int (nI (dk σ n))), (2, .int (nI (sP σ))), (0, .ref (α 0)), (1, .int (nI n))] [.int (nI (sF σ ((T σ n p) - 1))), .int (nI fv)] 337
                      exact join337_40 (sF σ ((T σ n p) - 1)) w42 (by rw [hf]; exact nt_f1 (by omega)) hA43
                    · refine r_iconst C dL_night_323 ki_0 ?_
                      refine r_goto C 337 dL_night_324 (by decide) ?_
                      exact join337_40 0 wJ207_0 (by rw [hf]; exact nt_f0 (by omega)) hJ207_0
                  refine r_iload C (i := 6) 8 dL_night_298 rfl ?_
                  refine r_iload C (i := 11) 5 dL_night_300 rfl ?_
                  refine r_iload C (i := 13) 3 dL_night_302 rfl ?_
                  refine r_icmp_ne C (c9 := T σ n p ≠ sR σ p n) 311 dL_night_304 (by decide) (c_neMM (by omega) (by omega)) (fun h304_44 => ?_) (fun h304_44 => ?_)
                  · refine r_iconst C dL_night_311 ki_1 ?_
                    exact join312_39 1 (by rw [ho]; exact nt_o1 (by omega))
                  · refine r_iconst C dL_night_307 ki_0 ?_
                    refine r_goto C 312 dL_night_308 (by decide) ?_
                    exact join312_39 0 (by rw [ho]; exact nt_o0 (by omega))
                refine r_iload C (i := 5) 8 dL_night_279 rfl ?_
                refine r_iload C (i := 11) 4 dL_night_281 rfl ?_
                refine r_iconst C dL_night_283 ki_m1 ?_
                refine r_icmp_ne C (c9 := T σ n p ≠ 0) 291 dL_night_284 (by decide) (c_neMM (by omega) (by omega)) (fun h284_45 => ?_) (fun h284_45 => ?_)
                · refine r_iconst C dL_night_291 ki_1 ?_
                  refine r_iload C (i := 11) 4 dL_night_292 rfl ?_
                  refine r_ishl (v := nI (2 ^ (T σ n p - 1))) C dL_night_294 (v_shlM (by omega) (by omega)) ?_
                  exact join295_38 (2 ^ (T σ n p - 1)) (by rw [hSv]; exact nt_us1 (by omega))
                · refine r_iconst C dL_night_287 ki_0 ?_
                  refine r_goto C 295 dL_night_288 (by decide) ?_
                  exact join295_38 0 (by rw [hSv]; exact nt_us0 (by omega))
              refine r_iload C (i := 8) 5 dL_night_261 rfl ?_
              refine r_if_ne C (y := 0) (c9 := lv ≠ 0) 272 dL_night_263 (by decide) (z_neN (by omega)) (fun h263_46 => ?_) (fun h263_46 => ?_)
              · refine r_iconst C dL_night_272 ki_1 ?_
                refine r_goto C 277 dL_night_273 (by decide) ?_
                exact join277_37 1 ((nt_d1 (by omega)).symm)
              · refine r_iload C (i := 11) 3 dL_night_266 rfl ?_
                refine r_iconst C dL_night_268 ki_m1 ?_
                refine r_icmp_ne C (c9 := T σ n p ≠ 0) 276 dL_night_269 (by decide) (c_neMM (by omega) (by omega)) (fun h269_47 => ?_) (fun h269_47 => ?_)
                · refine r_iconst C dL_night_276 ki_0 ?_
                  exact join277_37 0 ((nt_d0 (by omega) (by omega)).symm)
                · refine r_iconst C dL_night_272 ki_1 ?_
                  refine r_goto C 277 dL_night_273 (by decide) ?_
                  exact join277_37 1 ((nt_d1 (by omega)).symm)
            refine r_iload C (i := 9) 0 dL_night_209 rfl ?_
            refine r_if_eqF C (y := 0) (tgt := 258) dL_night_211 (by decide) (fun z => ((by decide) : ¬ (1 = 0)) ((z_eqN (by omega)).mp z)) ?_
            refine r_iload C (i := 13) 1 dL_night_214 rfl ?_
            refine r_iconst C dL_night_216 ki_m1 ?_
            refine r_icmp_eq C (c9 := sR σ p n = 0) 254 dL_night_217 (by decide) (c_eqMM (by omega) (by omega)) (fun h217_48 => ?_) (fun h217_48 => ?_)
            · refine r_iconst C dL_night_254 ki_1 ?_
              refine r_goto C 259 dL_night_255 (by decide) ?_
              exact join259_36  
            · refine r_iload C (i := 4) 9 dL_night_220 rfl ?_
              refine r_iload C (i := 13) 1 dL_night_222 rfl ?_
              refine r_ishr (v := nI ((bm (fun a => sI σ a n) 10) / 2 ^ (sR σ p n - 1))) C dL_night_224 (v_shrM (by omega) (by omega) (by omega)) ?_
              refine r_iconst C dL_night_225 ki_1 ?_
              refine r_iand (v := nI (((bm (fun a => sI σ a n) 10) / 2 ^ (sR σ p n - 1)) % 2)) C dL_night_226 (v_and1 _) ?_
              refine r_iconst C dL_night_227 ki_1 ?_
              refine r_icmp_eq C (c9 := ((bm (fun a => sI σ a n) 10) / 2 ^ (sR σ p n - 1)) % 2 = 1) 254 dL_night_228 (by decide) (c_eqNN (by omega) (by omega)) (fun h228_49 => ?_) (fun h228_49 => ?_)
              · refine r_iconst C dL_night_254 ki_1 ?_
                refine r_goto C 259 dL_night_255 (by decide) ?_
                exact join259_36  
              · refine r_iload C (i := 5) 8 dL_night_231 rfl ?_
                refine r_iload C (i := 13) 1 dL_night_233 rfl ?_
                refine r_ishr (v := nI (sv / 2 ^ (sR σ p n - 1))) C dL_night_235 (v_shrM (by omega) (by omega) (by omega)) ?_
                refine r_iconst C dL_night_236 ki_1 ?_
                refine r_iand (v := nI ((sv / 2 ^ (sR σ p n - 1)) % 2)) C dL_night_237 (v_and1 _) ?_
                refine r_iconst C dL_night_238 ki_1 ?_
                refine r_icmp_eq C (c9 := (sv / 2 ^ (sR σ p n - 1)) % 2 = 1) 254 dL_night_239 (by decide) (c_eqNN (by omega) (by omega)) (fun h239_50 => ?_) (fun h239_50 => ?_)
                · refine r_iconst C dL_night_254 ki_1 ?_
                  refine r_goto C 259 dL_night_255 (by decide) ?_
                  exact join259_36  
                · refine r_iload C (i := 12) 2 dL_night_242 rfl ?_
                  refine r_iconst C dL_night_244 ki_1 ?_
                  refine r_icmp_eq C (c9 := Wy σ n p = 1) 254 dL_night_245 (by decide) (c_eqNN (by omega) (by omega)) (fun h245_51 => ?_) (fun h245_51 => ?_)
                  · refine r_iconst C dL_night_254 ki_1 ?_
                    refine r_goto C 259 dL_night_255 (by decide) ?_
                    exact join259_36  
                  · refine r_iload C (i := 12) 2 dL_night_248 rfl ?_
                    refine r_iconst C dL_night_250 ki_2 ?_
                    refine r_icmp_neF C (tgt := 258) dL_night_251 (by decide) (fun z => ((fun z => z (nt_pr hW hpp hn (by omega) h228_49 (by rw [← hSv]; exact h239_50) (by omega))) : ¬ (Wy σ n p ≠ 2)) ((c_neNN (by omega) (by omega)).mp z)) ?_
                    refine r_iconst C dL_night_254 ki_1 ?_
                    refine r_goto C 259 dL_night_255 (by decide) ?_
                    exact join259_36  
          refine r_iload C (i := 11) 2 dL_night_98 rfl ?_
          refine r_iconst C dL_night_100 ki_m1 ?_
          refine r_icmp_ne C (c9 := T σ n p ≠ 0) 108 dL_night_101 (by decide) (c_neMM (by omega) (by omega)) (fun h101_52 => ?_) (fun h101_52 => ?_)
          · refine r_iconst C dL_night_108 ki_0 ?_
            refine r_iload C (i := 12) 1 dL_night_109 rfl ?_
            refine r_if_neT C (y := 0) 118 dL_night_111 (by decide) ((z_neN (by omega)).mpr (by omega)) ?_
            refine r_iconst C dL_night_118 ki_0 ?_
            refine r_icmp_neF C (tgt := 206) dL_night_119 (by decide) (fun z => ((by decide) : ¬ (0 ≠ 0)) ((c_neNN (by omega) (by omega)).mp z)) ?_
            refine r_iload C (i := 11) 2 dL_night_122 rfl ?_
            refine r_iconst C dL_night_124 ki_m1 ?_
            refine r_icmp_eqF C (tgt := 148) dL_night_125 (by decide) (fun z => ((by omega) : ¬ (T σ n p = 0)) ((c_eqMM (by omega) (by omega)).mp z)) ?_
            refine r_iload C (i := 5) 8 dL_night_128 rfl ?_
            refine r_iload C (i := 11) 2 dL_night_130 rfl ?_
            refine r_ishr (v := nI (sv / 2 ^ (T σ n p - 1))) C dL_night_132 (v_shrM (by omega) (by omega) (by omega)) ?_
            refine r_iconst C dL_night_133 ki_1 ?_
            refine r_iand (v := nI ((sv / 2 ^ (T σ n p - 1)) % 2)) C dL_night_134 (v_and1 _) ?_
            refine r_if_neF C (y := 0) (tgt := 206) dL_night_135 (by decide) (fun z => ((fun z => z (by rw [hSv]; exact nt_set (by omega))) : ¬ ((sv / 2 ^ (T σ n p - 1)) % 2 ≠ 0)) ((z_neN (by omega)).mp z)) ?_
            refine r_iload C (i := 4) 9 dL_night_138 rfl ?_
            refine r_iload C (i := 11) 2 dL_night_140 rfl ?_
            refine r_ishr (v := nI ((bm (fun a => sI σ a n) 10) / 2 ^ (T σ n p - 1))) C dL_night_142 (v_shrM (by omega) (by omega) (by omega)) ?_
            refine r_iconst C dL_night_143 ki_1 ?_
            refine r_iand (v := nI (((bm (fun a => sI σ a n) 10) / 2 ^ (T σ n p - 1)) % 2)) C dL_night_144 (v_and1 _) ?_
            refine r_if_neF C (y := 0) (tgt := 206) dL_night_145 (by decide) (fun z => ((fun z => z (nt_ill hW hpp hn (by omega))) : ¬ (((bm (fun a => sI σ a n) 10) / 2 ^ (T σ n p - 1)) % 2 ≠ 0)) ((z_neN (by omega)).mp z)) ?_
            refine r_iload C (i := 12) 1 dL_night_148 rfl ?_
            refine r_iconst C dL_night_150 ki_2 ?_
            refine r_icmp_ne C (c9 := Wy σ n p ≠ 2) 161 dL_night_151 (by decide) (c_neNN (by omega) (by omega)) (fun h151_53 => ?_) (fun h151_53 => ?_)
            · refine r_iload C (i := 12) 1 dL_night_161 rfl ?_
              refine r_iconst C dL_night_163 ki_1 ?_
              refine r_icmp_ne C (c9 := Wy σ n p ≠ 1) 179 dL_night_164 (by decide) (c_neNN (by omega) (by omega)) (fun h164_54 => ?_) (fun h164_54 => ?_)
              · refine r_aload_n C (i := 0) 12 dL_night_179 rfl rfl ?_
                refine r_iconst C dL_night_180 ki_3 ?_
                refine r_iload_n C (i := 1) 13 dL_night_181 rfl rfl ?_
                refine r_iload C (i := 10) 3 dL_night_182 rfl ?_
                refine r_iconst C dL_night_184 ki_0 ?_
                refine Ca.on hB.2.2.2 hB.2.1 (j := 0) (K := 0) (rest := []) (by omega) (cl_played hst hA34 (n := n) (p := p) (hn := (by omega)) (hp := (by omega))).l lk_L_call w_2_41 dL_night_185 rfl ⟨by decide, by decide⟩ (Nat.le_of_ble_eq_true rfl) ?_
                rintro _ w55 ⟨rfl, hA56⟩
                show Ω 0 w55 [(13, .int (mI (sR σ p n))), (12, .int (nI (Wy σ n p))), (11, .int (mI (T σ n p))), (10, .int (nI p)), (9, .int (nI 1)), (8, .int (nI lv)), (7, .int (nI fv)), (6, .int (nI ov)), (5, .int (nI sv)), (4, .int (nI (bm (fun a => sI σ a n) 10))), (3, .int (nI (dk σ n))), (2, .int (nI (sP σ))), (0, .ref (α 0)), (1, .int (nI n))] [.int (mI (pT σ n p))] 188
                refine r_iload_n C (i := 3) 10 dL_night_188 rfl rfl ?_
                refine r_iconst C dL_night_189 ki_1 ?_
                refine r_icmp_ne C (c9 := dk σ n ≠ 1) 197 dL_night_190 (by decide) (c_neNN (by omega) (by omega)) (fun h190_57 => ?_) (fun h190_57 => ?_)
                · refine r_iload C (i := 11) 2 dL_night_197 rfl ?_
                  refine r_icmp_neF C (tgt := 206) dL_night_199 (by decide) (fun z => ((fun z => z (pT_0 (by omega))) : ¬ (pT σ n p ≠ T σ n p)) ((c_neMM (by omega) (by omega)).mp z)) ?_
                  refine r_iconst C dL_night_202 ki_1 ?_
                  refine r_goto C 207 dL_night_203 (by decide) ?_
                  exact join207_35 w55 hA56
                · refine r_iconst C dL_night_193 ki_m1 ?_
                  refine r_goto C 199 dL_night_194 (by decide) ?_
                  refine r_icmp_neF C (tgt := 206) dL_night_199 (by decide) (fun z => ((fun z => z (pT_1 (by omega))) : ¬ (pT σ n p ≠ 0)) ((c_neMM (by omega) (by omega)).mp z)) ?_
                  refine r_iconst C dL_night_202 ki_1 ?_
                  refine r_goto C 207 dL_night_203 (by decide) ?_
                  exact join207_35 w55 hA56
              · refine r_aload_n C (i := 0) 12 dL_night_167 rfl rfl ?_
                refine r_iconst C dL_night_168 ki_4 ?_
                refine r_iload_n C (i := 1) 13 dL_night_169 rfl rfl ?_
                refine r_iload C (i := 10) 3 dL_night_170 rfl ?_
                refine r_iconst C dL_night_172 ki_3 ?_
                refine Ca.on hB.2.2.2 hB.2.1 (j := 0) (K := 0) (rest := []) (by omega) (cl_bill_3 hst hA34 (n := n) (p := p) (hn := (by omega)) (hp := (by omega))).l lk_L_call w_2_41 dL_night_173 rfl ⟨by decide, by decide⟩ (Nat.le_of_ble_eq_true rfl) ?_
                rintro _ w58 ⟨rfl, hA59⟩
                show Ω 0 w58 [(13, .int (mI (sR σ p n))), (12, .int (nI (Wy σ n p))), (11, .int (mI (T σ n p))), (10, .int (nI p)), (9, .int (nI 1)), (8, .int (nI lv)), (7, .int (nI fv)), (6, .int (nI ov)), (5, .int (nI sv)), (4, .int (nI (bm (fun a => sI σ a n) 10))), (3, .int (nI (dk σ n))), (2, .int (nI (sP σ))), (0, .ref (α 0)), (1, .int (nI n))] [.int (nI (slC σ n p (sS σ)))] 176
                refine r_if_leF C (y := 0) (tgt := 206) dL_night_176 (by decide) (fun z => ((fun z => absurd z (Nat.ne_of_gt (nt_slip (by omega)))) : ¬ (slC σ n p (sS σ) = 0)) ((z_leN (by omega)).mp z)) ?_
                refine r_aload_n C (i := 0) 12 dL_night_179 rfl rfl ?_
                refine r_iconst C dL_night_180 ki_3 ?_
                refine r_iload_n C (i := 1) 13 dL_night_181 rfl rfl ?_
                refine r_iload C (i := 10) 3 dL_night_182 rfl ?_
                refine r_iconst C dL_night_184 ki_0 ?_
                refine Ca.on hB.2.2.2 hB.2.1 (j := 0) (K := 0) (rest := []) (by omega) (cl_played hst hA59 (n := n) (p := p) (hn := (by omega)) (hp := (by omega))).l lk_L_call w_2_41 dL_night_185 rfl ⟨by decide, by decide⟩ (Nat.le_of_ble_eq_true rfl) ?_
                rintro _ w60 ⟨rfl, hA61⟩
                show Ω 0 w60 [(13, .int (mI (sR σ p n))), (12, .int (nI (Wy σ n p))), (11, .int (mI (T σ n p))), (10, .int (nI p)), (9, .int (nI 1)), (8, .int (nI lv)), (7, .int (nI fv)), (6, .int (nI ov)), (5, .int (nI sv)), (4, .int (nI (bm (fun a => sI σ a n) 10))), (3, .int (nI (dk σ n))), (2, .int (nI (sP σ))), (0, .ref (α 0)), (1, .int (nI n))] [.int (mI (pT σ n p))] 188
                refine r_iload_n C (i := 3) 10 dL_night_188 rfl rfl ?_
                refine r_iconst C dL_night_189 ki_1 ?_
                refine r_icmp_ne C (c9 := dk σ n ≠ 1) 197 dL_night_190 (by decide) (c_neNN (by omega) (by omega)) (fun h190_62 => ?_) (fun h190_62 => ?_)
                · refine r_iload C (i := 11) 2 dL_night_197 rfl ?_
                  refine r_icmp_neF C (tgt := 206) dL_night_199 (by decide) (fun z => ((fun z => z (pT_0 (by omega))) : ¬ (pT σ n p ≠ T σ n p)) ((c_neMM (by omega) (by omega)).mp z)) ?_
                  refine r_iconst C dL_night_202 ki_1 ?_
                  refine r_goto C 207 dL_night_203 (by decide) ?_
                  exact join207_35 w60 hA61
                · refine r_iconst C dL_night_193 ki_m1 ?_
                  refine r_goto C 199 dL_night_194 (by decide) ?_
                  refine r_icmp_neF C (tgt := 206) dL_night_199 (by decide) (fun z => ((fun z => z (pT_1 (by omega))) : ¬ (pT σ n p ≠ 0)) ((c_neMM (by omega) (by omega)).mp z)) ?_
                  refine r_iconst C dL_night_202 ki_1 ?_
                  refine r_goto C 207 dL_night_203 (by decide) ?_
                  exact join207_35 w60 hA61
            · refine r_iload C (i := 11) 2 dL_night_154 rfl ?_
              refine r_iload C (i := 13) 0 dL_night_156 rfl ?_
              refine r_icmp_neF C (tgt := 206) dL_night_158 (by decide) (fun z => ((fun z => z (nt_own (by omega))) : ¬ (T σ n p ≠ sR σ p n)) ((c_neMM (by omega) (by omega)).mp z)) ?_
              refine r_iload C (i := 12) 1 dL_night_161 rfl ?_
              refine r_iconst C dL_night_163 ki_1 ?_
              refine r_icmp_neT C 179 dL_night_164 (by decide) ((c_neNN (by omega) (by omega)).mpr (by omega)) ?_
              refine r_aload_n C (i := 0) 12 dL_night_179 rfl rfl ?_
              refine r_iconst C dL_night_180 ki_3 ?_
              refine r_iload_n C (i := 1) 13 dL_night_181 rfl rfl ?_
              refine r_iload C (i := 10) 3 dL_night_182 rfl ?_
              refine r_iconst C dL_night_184 ki_0 ?_
              refine Ca.on hB.2.2.2 hB.2.1 (j := 0) (K := 0) (rest := []) (by omega) (cl_played hst hA34 (n := n) (p := p) (hn := (by omega)) (hp := (by omega))).l lk_L_call w_2_41 dL_night_185 rfl ⟨by decide, by decide⟩ (Nat.le_of_ble_eq_true rfl) ?_
              rintro _ w63 ⟨rfl, hA64⟩
              show Ω 0 w63 [(13, .int (mI (sR σ p n))), (12, .int (nI (Wy σ n p))), (11, .int (mI (T σ n p))), (10, .int (nI p)), (9, .int (nI 1)), (8, .int (nI lv)), (7, .int (nI fv)), (6, .int (nI ov)), (5, .int (nI sv)), (4, .int (nI (bm (fun a => sI σ a n) 10))), (3, .int (nI (dk σ n))), (2, .int (nI (sP σ))), (0, .ref (α 0)), (1, .int (nI n))] [.int (mI (pT σ n p))] 188
              refine r_iload_n C (i := 3) 10 dL_night_188 rfl rfl ?_
              refine r_iconst C dL_night_189 ki_1 ?_
              refine r_icmp_ne C (c9 := dk σ n ≠ 1) 197 dL_night_190 (by decide) (c_neNN (by omega) (by omega)) (fun h190_65 => ?_) (fun h190_65 => ?_)
              · refine r_iload C (i := 11) 2 dL_night_197 rfl ?_
                refine r_icmp_neF C (tgt := 206) dL_night_199 (by decide) (fun z => ((fun z => z (pT_0 (by omega))) : ¬ (pT σ n p ≠ T σ n p)) ((c_neMM (by omega) (by omega)).mp z)) ?_
                refine r_iconst C dL_night_202 ki_1 ?_
                refine r_goto C 207 dL_night_203 (by decide) ?_
                exact join207_35 w63 hA64
              · refine r_iconst C dL_night_193 ki_m1 ?_
                refine r_goto C 199 dL_night_194 (by decide) ?_
                refine r_icmp_neF C (tgt := 206) dL_night_199 (by decide) (fun z => ((fun z => z (pT_1 (by omega))) : ¬ (pT σ n p ≠ 0)) ((c_neMM (by omega) (by omega)).mp z)) ?_
                refine r_iconst C dL_night_202 ki_1 ?_
                refine r_goto C 207 dL_night_203 (by decide) ?_
                exact join207_35 w63 hA64
          · refine r_iconst C dL_night_104 ki_1 ?_
            refine r_goto C 109 dL_night_105 (by decide) ?_
            refine r_iload C (i := 12) 1 dL_night_109 rfl ?_
            refine r_if_neF C (y := 0) (tgt := 118) dL_night_111 (by decide) (fun z => ((by omega) : ¬ (Wy σ n p ≠ 0)) ((z_neN (by omega)).mp z)) ?_
            refine r_iconst C dL_night_114 ki_1 ?_
            refine r_goto C 119 dL_night_115 (by decide) ?_
            refine r_icmp_neF C (tgt := 206) dL_night_119 (by decide) (fun z => ((by decide) : ¬ (1 ≠ 1)) ((c_neNN (by omega) (by omega)).mp z)) ?_
            refine r_iload C (i := 11) 2 dL_night_122 rfl ?_
            refine r_iconst C dL_night_124 ki_m1 ?_
            refine r_icmp_eqT C 148 dL_night_125 (by decide) ((c_eqMM (by omega) (by omega)).mpr (by omega)) ?_
            refine r_iload C (i := 12) 1 dL_night_148 rfl ?_
            refine r_iconst C dL_night_150 ki_2 ?_
            refine r_icmp_ne C (c9 := Wy σ n p ≠ 2) 161 dL_night_151 (by decide) (c_neNN (by omega) (by omega)) (fun h151_66 => ?_) (fun h151_66 => ?_)
            · refine r_iload C (i := 12) 1 dL_night_161 rfl ?_
              refine r_iconst C dL_night_163 ki_1 ?_
              refine r_icmp_ne C (c9 := Wy σ n p ≠ 1) 179 dL_night_164 (by decide) (c_neNN (by omega) (by omega)) (fun h164_67 => ?_) (fun h164_67 => ?_)
              · refine r_aload_n C (i := 0) 12 dL_night_179 rfl rfl ?_
                refine r_iconst C dL_night_180 ki_3 ?_
                refine r_iload_n C (i := 1) 13 dL_night_181 rfl rfl ?_
                refine r_iload C (i := 10) 3 dL_night_182 rfl ?_
                refine r_iconst C dL_night_184 ki_0 ?_
                refine Ca.on hB.2.2.2 hB.2.1 (j := 0) (K := 0) (rest := []) (by omega) (cl_played hst hA34 (n := n) (p := p) (hn := (by omega)) (hp := (by omega))).l lk_L_call w_2_41 dL_night_185 rfl ⟨by decide, by decide⟩ (Nat.le_of_ble_eq_true rfl) ?_
                rintro _ w68 ⟨rfl, hA69⟩
                show Ω 0 w68 [(13, .int (mI (sR σ p n))), (12, .int (nI (Wy σ n p))), (11, .int (mI (T σ n p))), (10, .int (nI p)), (9, .int (nI 1)), (8, .int (nI lv)), (7, .int (nI fv)), (6, .int (nI ov)), (5, .int (nI sv)), (4, .int (nI (bm (fun a => sI σ a n) 10))), (3, .int (nI (dk σ n))), (2, .int (nI (sP σ))), (0, .ref (α 0)), (1, .int (nI n))] [.int (mI (pT σ n p))] 188
                refine r_iload_n C (i := 3) 10 dL_night_188 rfl rfl ?_
                refine r_iconst C dL_night_189 ki_1 ?_
                refine r_icmp_ne C (c9 := dk σ n ≠ 1) 197 dL_night_190 (by decide) (c_neNN (by omega) (by omega)) (fun h190_70 => ?_) (fun h190_70 => ?_)
                · refine r_iload C (i := 11) 2 dL_night_197 rfl ?_
                  refine r_icmp_neF C (tgt := 206) dL_night_199 (by decide) (fun z => ((fun z => z (pT_0 (by omega))) : ¬ (pT σ n p ≠ T σ n p)) ((c_neMM (by omega) (by omega)).mp z)) ?_
                  refine r_iconst C dL_night_202 ki_1 ?_
                  refine r_goto C 207 dL_night_203 (by decide) ?_
                  exact join207_35 w68 hA69
                · refine r_iconst C dL_night_193 ki_m1 ?_
                  refine r_goto C 199 dL_night_194 (by decide) ?_
                  refine r_icmp_neF C (tgt := 206) dL_night_199 (by decide) (fun z => ((fun z => z (pT_1 (by omega))) : ¬ (pT σ n p ≠ 0)) ((c_neMM (by omega) (by omega)).mp z)) ?_
                  refine r_iconst C dL_night_202 ki_1 ?_
                  refine r_goto C 207 dL_night_203 (by decide) ?_
                  exact join207_35 w68 hA69
              · refine r_aload_n C (i := 0) 12 dL_night_167 rfl rfl ?_
                refine r_iconst C dL_night_168 ki_4 ?_
                refine r_iload_n C (i := 1) 13 dL_night_169 rfl rfl ?_
                refine r_iload C (i := 10) 3 dL_night_170 rfl ?_
                refine r_iconst C dL_night_172 ki_3 ?_
                refine Ca.on hB.2.2.2 hB.2.1 (j := 0) (K := 0) (rest := []) (by omega) (cl_bill_3 hst hA34 (n := n) (p := p) (hn := (by omega)) (hp := (by omega))).l lk_L_call w_2_41 dL_night_173 rfl ⟨by decide, by decide⟩ (Nat.le_of_ble_eq_true rfl) ?_
                rintro _ w71 ⟨rfl, hA72⟩
                show Ω 0 w71 [(13, .int (mI (sR σ p n))), (12, .int (nI (Wy σ n p))), (11, .int (mI (T σ n p))), (10, .int (nI p)), (9, .int (nI 1)), (8, .int (nI lv)), (7, .int (nI fv)), (6, .int (nI ov)), (5, .int (nI sv)), (4, .int (nI (bm (fun a => sI σ a n) 10))), (3, .int (nI (dk σ n))), (2, .int (nI (sP σ))), (0, .ref (α 0)), (1, .int (nI n))] [.int (nI (slC σ n p (sS σ)))] 176
                refine r_if_leF C (y := 0) (tgt := 206) dL_night_176 (by decide) (fun z => ((fun z => absurd z (Nat.ne_of_gt (nt_slip (by omega)))) : ¬ (slC σ n p (sS σ) = 0)) ((z_leN (by omega)).mp z)) ?_
                refine r_aload_n C (i := 0) 12 dL_night_179 rfl rfl ?_
                refine r_iconst C dL_night_180 ki_3 ?_
                refine r_iload_n C (i := 1) 13 dL_night_181 rfl rfl ?_
                refine r_iload C (i := 10) 3 dL_night_182 rfl ?_
                refine r_iconst C dL_night_184 ki_0 ?_
                refine Ca.on hB.2.2.2 hB.2.1 (j := 0) (K := 0) (rest := []) (by omega) (cl_played hst hA72 (n := n) (p := p) (hn := (by omega)) (hp := (by omega))).l lk_L_call w_2_41 dL_night_185 rfl ⟨by decide, by decide⟩ (Nat.le_of_ble_eq_true rfl) ?_
                rintro _ w73 ⟨rfl, hA74⟩
                show Ω 0 w73 [(13, .int (mI (sR σ p n))), (12, .int (nI (Wy σ n p))), (11, .int (mI (T σ n p))), (10, .int (nI p)), (9, .int (nI 1)), (8, .int (nI lv)), (7, .int (nI fv)), (6, .int (nI ov)), (5, .int (nI sv)), (4, .int (nI (bm (fun a => sI σ a n) 10))), (3, .int (nI (dk σ n))), (2, .int (nI (sP σ))), (0, .ref (α 0)), (1, .int (nI n))] [.int (mI (pT σ n p))] 188
                refine r_iload_n C (i := 3) 10 dL_night_188 rfl rfl ?_
                refine r_iconst C dL_night_189 ki_1 ?_
                refine r_icmp_ne C (c9 := dk σ n ≠ 1) 197 dL_night_190 (by decide) (c_neNN (by omega) (by omega)) (fun h190_75 => ?_) (fun h190_75 => ?_)
                · refine r_iload C (i := 11) 2 dL_night_197 rfl ?_
                  refine r_icmp_neF C (tgt := 206) dL_night_199 (by decide) (fun z => ((fun z => z (pT_0 (by omega))) : ¬ (pT σ n p ≠ T σ n p)) ((c_neMM (by omega) (by omega)).mp z)) ?_
                  refine r_iconst C dL_night_202 ki_1 ?_
                  refine r_goto C 207 dL_night_203 (by decide) ?_
                  exact join207_35 w73 hA74
                · refine r_iconst C dL_night_193 ki_m1 ?_
                  refine r_goto C 199 dL_night_194 (by decide) ?_
                  refine r_icmp_neF C (tgt := 206) dL_night_199 (by decide) (fun z => ((fun z => z (pT_1 (by omega))) : ¬ (pT σ n p ≠ 0)) ((c_neMM (by omega) (by omega)).mp z)) ?_
                  refine r_iconst C dL_night_202 ki_1 ?_
                  refine r_goto C 207 dL_night_203 (by decide) ?_
                  exact join207_35 w73 hA74
            · refine r_iload C (i := 11) 2 dL_night_154 rfl ?_
              refine r_iload C (i := 13) 0 dL_night_156 rfl ?_
              refine r_icmp_neF C (tgt := 206) dL_night_158 (by decide) (fun z => ((fun z => z (nt_own (by omega))) : ¬ (T σ n p ≠ sR σ p n)) ((c_neMM (by omega) (by omega)).mp z)) ?_
              refine r_iload C (i := 12) 1 dL_night_161 rfl ?_
              refine r_iconst C dL_night_163 ki_1 ?_
              refine r_icmp_neT C 179 dL_night_164 (by decide) ((c_neNN (by omega) (by omega)).mpr (by omega)) ?_
              refine r_aload_n C (i := 0) 12 dL_night_179 rfl rfl ?_
              refine r_iconst C dL_night_180 ki_3 ?_
              refine r_iload_n C (i := 1) 13 dL_night_181 rfl rfl ?_
              refine r_iload C (i := 10) 3 dL_night_182 rfl ?_
              refine r_iconst C dL_night_184 ki_0 ?_
              refine Ca.on hB.2.2.2 hB.2.1 (j := 0) (K := 0) (rest := []) (by omega) (cl_played hst hA34 (n := n) (p := p) (hn := (by omega)) (hp := (by omega))).l lk_L_call w_2_41 dL_night_185 rfl ⟨by decide, by decide⟩ (Nat.le_of_ble_eq_true rfl) ?_
              rintro _ w76 ⟨rfl, hA77⟩
              show Ω 0 w76 [(13, .int (mI (sR σ p n))), (12, .int (nI (Wy σ n p))), (11, .int (mI (T σ n p))), (10, .int (nI p)), (9, .int (nI 1)), (8, .int (nI lv)), (7, .int (nI fv)), (6, .int (nI ov)), (5, .int (nI sv)), (4, .int (nI (bm (fun a => sI σ a n) 10))), (3, .int (nI (dk σ n))), (2, .int (nI (sP σ))), (0, .ref (α 0)), (1, .int (nI n))] [.int (mI (pT σ n p))] 188
              refine r_iload_n C (i := 3) 10 dL_night_188 rfl rfl ?_
              refine r_iconst C dL_night_189 ki_1 ?_
              refine r_icmp_ne C (c9 := dk σ n ≠ 1) 197 dL_night_190 (by decide) (c_neNN (by omega) (by omega)) (fun h190_78 => ?_) (fun h190_78 => ?_)
              · refine r_iload C (i := 11) 2 dL_night_197 rfl ?_
                refine r_icmp_neF C (tgt := 206) dL_night_199 (by decide) (fun z => ((fun z => z (pT_0 (by omega))) : ¬ (pT σ n p ≠ T σ n p)) ((c_neMM (by omega) (by omega)).mp z)) ?_
                refine r_iconst C dL_night_202 ki_1 ?_
                refine r_goto C 207 dL_night_203 (by decide) ?_
                exact join207_35 w76 hA77
              · refine r_iconst C dL_night_193 ki_m1 ?_
                refine r_goto C 199 dL_night_194 (by decide) ?_
                refine r_icmp_neF C (tgt := 206) dL_night_199 (by decide) (fun z => ((fun z => z (pT_1 (by omega))) : ¬ (pT σ n p ≠ 0)) ((c_neMM (by omega) (by omega)).mp z)) ?_
                refine r_iconst C dL_night_202 ki_1 ?_
                refine r_goto C 207 dL_night_203 (by decide) ?_
                exact join207_35 w76 hA77
    exact loop54_9 _ 0 0 0 0 lo w5 (Nat.lt_succ_self _) (by omega) rfl rfl rfl hlo hA6
  refine r_iload_n C (i := 2) 5 dL_night_37 rfl rfl ?_
  refine r_if_ne C (y := 0) (c9 := sP σ ≠ 0) 45 dL_night_38 (by decide) (z_neN (by omega)) (fun h38_79 => ?_) (fun h38_79 => ?_)
  · refine r_iconst C dL_night_45 ki_0 ?_
    exact join46_7 0 (by rw [dkN]; split <;> omega)
  · refine r_iconst C dL_night_41 ki_1 ?_
    refine r_goto C 46 dL_night_42 (by decide) ?_
    exact join46_7 1 (by rw [dkN]; split <;> omega)
