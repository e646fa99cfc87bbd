set_option maxRecDepth 100000 in
set_option maxHeartbeats 4000000 in
theorem law_loop {l : Launch} {E : Ev} (hst : l.stackTraces = false) {b L : Nat} {xs : Nat → Int32} {c0 s0 : Nat} {Ω : Nat → Om} (hL : Lw l E b L xs c0 s0 Ω) (hL2 : L ≤ 2560) {hB b1 b2 b3 b4 b5 b6 b7 b8 b9 b10 b11 c1 c2 c3 c6 e1 e2 e3 g1 g2 g3 h1 h2 h3 hM x1 x3 x4 x5 x7 x8 x9 x10 x11 o : Nat} : ∀ (d j : Nat), j ≤ 512 → 513 ≤ j + d → LK E (Ω j) (lv0 b hB hM o (5 * j)) 23 hB b1 b2 b3 b4 b5 b6 b7 b8 b9 b10 b11 c1 c2 c3 c6 e1 e2 e3 g1 g2 g3 h1 h2 h3 hM x1 x3 x4 x5 x7 x8 x9 x10 x11 o := by
  intro d
  induction d with
  | zero => intro j h1 h2; omega
  | succ d ih =>
    intro j hj hd od cnt sz par fre pri sls drk pla tks par1 fre1 pri1 sls1 drk1 pla1 tks1 sd st par3 fre3 pri3 sls3 drk3 pla3 tks3 rf sp ou f f2 D K Z tx t1 t2 t3 r1 r2 r3 s1 s2 s3 bl ty g g4 Dm Km Zm u1 u2 u3 og σ hs ks kd sg hW hRC hRM hHC hHM hKC hKM hTC hTM
    have C := hL.1 j hj
    refine r_iload C (i := 4) 4 dL_law_23 rfl ?_
    refine r_aload_n C (i := 0) 0 dL_law_25 rfl rfl ?_
    refine hL.2.2.2.1 _ _ _ _ _ dL_law_26 ?_
    refine r_iconst C dL_law_27 ki_5 ?_
    refine r_isub (v := nI L - nI 5) C dL_law_28 rfl ?_
    refine r_icmp_gt C (c9 := ¬ (5 * j + 5 ≤ L)) 2193 dL_law_29 (by decide) (len5 hL2 (by omega)) (fun hg => ?_) (fun hg => ?_)
    · refine r_iconst C dL_law_2193 ki_1 ?_
      exact hL.2.2.2.2.2 _ _ _ _ hj dL_law_2194
    have hi5 : 5 * j + 5 ≤ L := Decidable.not_not.mp hg
    have h512 : j < 512 := by omega
    have kk9 : LK E (Ω (j + 1)) (lv0 b hB hM o (5 * j)) 2187 hB b1 b2 b3 b4 b5 b6 b7 b8 b9 b10 b11 c1 c2 c3 c6 e1 e2 e3 g1 g2 g3 h1 h2 h3 hM x1 x3 x4 x5 x7 x8 x9 x10 x11 o := by
      intro od cnt sz par fre pri sls drk pla tks par1 fre1 pri1 sls1 drk1 pla1 tks1 sd st par3 fre3 pri3 sls3 drk3 pla3 tks3 rf sp ou f f2 D K Z tx t1 t2 t3 r1 r2 r3 s1 s2 s3 bl ty g g4 Dm Km Zm u1 u2 u3 og σ hs ks kd sg hW hRC hRM hHC hHM hKC hKM hTC hTM
      have C9 := hL.1 (j + 1) (by omega)
      refine r_iinc C9 (lv' := [(4, .int (nI (5 * j + 5))), (0, .ref b), (1, .ref hB), (2, .ref hM), (3, .ref o)]) (v := nI (5 * j + 5)) 4 dL_law_2187 rfl (nI_add _ 5) (by decide) rfl ?_
      refine r_goto C9 23 dL_law_2190 (by decide) ?_
      refine r_lv (lv' := lv0 b hB hM o (5 * (j + 1))) C9 [1, 2, 3, 4, 0] rfl ?_
      exact ih (j + 1) (by omega) (by omega) od cnt sz par fre pri sls drk pla tks par1 fre1 pri1 sls1 drk1 pla1 tks1 sd st par3 fre3 pri3 sls3 drk3 pla3 tks3 rf sp ou f f2 D K Z tx t1 t2 t3 r1 r2 r3 s1 s2 s3 bl ty g g4 Dm Km Zm u1 u2 u3 og σ hs ks kd sg hW hRC hRM hHC hHM hKC hKM hTC hTM
    refine r_aload_n C (i := 0) 0 dL_law_32 rfl rfl ?_
    refine r_iload C (i := 4) 4 dL_law_33 rfl ?_
    refine hL.2.2.1 _ _ _ _ _ _ (by omega) dL_law_35 ?_
    refine r_bipush C dL_law_36 kb_31 ?_
    obtain ⟨m, hm, em⟩ := and31 (xs (5 * j))
    refine r_iand (v := nI m) C dL_law_38 em ?_
    rcases (by omega : m = 0 ∨ m = 1 ∨ m = 2 ∨ m = 3 ∨ m = 4 ∨ m = 5 ∨ m = 6 ∨ m = 7 ∨ m = 8 ∨ m = 9 ∨ m = 10 ∨ m = 11 ∨ m = 12 ∨ m = 13 ∨ m = 14 ∨ m = 15 ∨ m = 16 ∨ m = 17 ∨ m = 18 ∨ m = 19 ∨ m = 20 ∨ m = 21 ∨ m = 22 ∨ m = 23 ∨ m = 24 ∨ m = 25 ∨ m = 26 ∨ m = 27 ∨ m = 28 ∨ m = 29 ∨ m = 30 ∨ m = 31) with rfl | rfl | rfl | rfl | rfl | rfl | rfl | rfl | rfl | rfl | rfl | rfl | rfl | rfl | rfl | rfl | rfl | rfl | rfl | rfl | rfl | rfl | rfl | rfl | rfl | rfl | rfl | rfl | rfl | rfl | rfl | rfl
    · refine r_tabIn (off := 141) C 180 dL_law_39 (by decide) (by decide) (by decide) (by decide) ?_
      exact cs_append hst hL h512 hi5 hL2 kk9 od cnt sz par fre pri sls drk pla tks par1 fre1 pri1 sls1 drk1 pla1 tks1 sd st par3 fre3 pri3 sls3 drk3 pla3 tks3 rf sp ou f f2 D K Z tx t1 t2 t3 r1 r2 r3 s1 s2 s3 bl ty g g4 Dm Km Zm u1 u2 u3 og σ hs ks kd sg hW hRC hRM hHC hHM hKC hKM hTC hTM
    · refine r_tabIn (off := 197) C 236 dL_law_39 (by decide) (by decide) (by decide) (by decide) ?_
      exact cs_clearText hst hL h512 hi5 hL2 kk9 od cnt sz par fre pri sls drk pla tks par1 fre1 pri1 sls1 drk1 pla1 tks1 sd st par3 fre3 pri3 sls3 drk3 pla3 tks3 rf sp ou f f2 D K Z tx t1 t2 t3 r1 r2 r3 s1 s2 s3 bl ty g g4 Dm Km Zm u1 u2 u3 og σ hs ks kd sg hW hRC hRM hHC hHM hKC hKM hTC hTM
    · refine r_tabIn (off := 210) C 249 dL_law_39 (by decide) (by decide) (by decide) (by decide) ?_
      exact cs_errorPosition hst hL h512 hi5 hL2 kk9 od cnt sz par fre pri sls drk pla tks par1 fre1 pri1 sls1 drk1 pla1 tks1 sd st par3 fre3 pri3 sls3 drk3 pla3 tks3 rf sp ou f f2 D K Z tx t1 t2 t3 r1 r2 r3 s1 s2 s3 bl ty g g4 Dm Km Zm u1 u2 u3 og σ hs ks kd sg hW hRC hRM hHC hHM hKC hKM hTC hTM
    · refine r_tabIn (off := 223) C 262 dL_law_39 (by decide) (by decide) (by decide) (by decide) ?_
      exact cs_load hst hL h512 hi5 hL2 kk9 od cnt sz par fre pri sls drk pla tks par1 fre1 pri1 sls1 drk1 pla1 tks1 sd st par3 fre3 pri3 sls3 drk3 pla3 tks3 rf sp ou f f2 D K Z tx t1 t2 t3 r1 r2 r3 s1 s2 s3 bl ty g g4 Dm Km Zm u1 u2 u3 og σ hs ks kd sg hW hRC hRM hHC hHM hKC hKM hTC hTM
    · refine r_tabIn (off := 267) C 306 dL_law_39 (by decide) (by decide) (by decide) (by decide) ?_
      exact cs_about hst hL h512 hi5 hL2 kk9 od cnt sz par fre pri sls drk pla tks par1 fre1 pri1 sls1 drk1 pla1 tks1 sd st par3 fre3 pri3 sls3 drk3 pla3 tks3 rf sp ou f f2 D K Z tx t1 t2 t3 r1 r2 r3 s1 s2 s3 bl ty g g4 Dm Km Zm u1 u2 u3 og σ hs ks kd sg hW hRC hRM hHC hHM hKC hKM hTC hTM
    · refine r_tabIn (off := 323) C 362 dL_law_39 (by decide) (by decide) (by decide) (by decide) ?_
      exact cs_played hst hL h512 hi5 hL2 kk9 od cnt sz par fre pri sls drk pla tks par1 fre1 pri1 sls1 drk1 pla1 tks1 sd st par3 fre3 pri3 sls3 drk3 pla3 tks3 rf sp ou f f2 D K Z tx t1 t2 t3 r1 r2 r3 s1 s2 s3 bl ty g g4 Dm Km Zm u1 u2 u3 og σ hs ks kd sg hW hRC hRM hHC hHM hKC hKM hTC hTM
    · refine r_tabIn (off := 391) C 430 dL_law_39 (by decide) (by decide) (by decide) (by decide) ?_
      exact cs_bill hst hL h512 hi5 hL2 kk9 od cnt sz par fre pri sls drk pla tks par1 fre1 pri1 sls1 drk1 pla1 tks1 sd st par3 fre3 pri3 sls3 drk3 pla3 tks3 rf sp ou f f2 D K Z tx t1 t2 t3 r1 r2 r3 s1 s2 s3 bl ty g g4 Dm Km Zm u1 u2 u3 og σ hs ks kd sg hW hRC hRM hHC hHM hKC hKM hTC hTM
    · refine r_tabIn (off := 471) C 510 dL_law_39 (by decide) (by decide) (by decide) (by decide) ?_
      exact cs_night hst hL h512 hi5 hL2 kk9 od cnt sz par fre pri sls drk pla tks par1 fre1 pri1 sls1 drk1 pla1 tks1 sd st par3 fre3 pri3 sls3 drk3 pla3 tks3 rf sp ou f f2 D K Z tx t1 t2 t3 r1 r2 r3 s1 s2 s3 bl ty g g4 Dm Km Zm u1 u2 u3 og σ hs ks kd sg hW hRC hRM hHC hHM hKC hKM hTC hTM
    · refine r_tabIn (off := 539) C 578 dL_law_39 (by decide) (by decide) (by decide) (by decide) ?_
      exact cs_actor hst hL h512 hi5 hL2 kk9 od cnt sz par fre pri sls drk pla tks par1 fre1 pri1 sls1 drk1 pla1 tks1 sd st par3 fre3 pri3 sls3 drk3 pla3 tks3 rf sp ou f f2 D K Z tx t1 t2 t3 r1 r2 r3 s1 s2 s3 bl ty g g4 Dm Km Zm u1 u2 u3 og σ hs ks kd sg hW hRC hRM hHC hHM hKC hKM hTC hTM
    · refine r_tabIn (off := 607) C 646 dL_law_39 (by decide) (by decide) (by decide) (by decide) ?_
      exact cs_ranked hst hL h512 hi5 hL2 kk9 od cnt sz par fre pri sls drk pla tks par1 fre1 pri1 sls1 drk1 pla1 tks1 sd st par3 fre3 pri3 sls3 drk3 pla3 tks3 rf sp ou f f2 D K Z tx t1 t2 t3 r1 r2 r3 s1 s2 s3 bl ty g g4 Dm Km Zm u1 u2 u3 og σ hs ks kd sg hW hRC hRM hHC hHM hKC hKM hTC hTM
    · refine r_tabIn (off := 675) C 714 dL_law_39 (by decide) (by decide) (by decide) (by decide) ?_
      exact cs_found hst hL h512 hi5 hL2 kk9 od cnt sz par fre pri sls drk pla tks par1 fre1 pri1 sls1 drk1 pla1 tks1 sd st par3 fre3 pri3 sls3 drk3 pla3 tks3 rf sp ou f f2 D K Z tx t1 t2 t3 r1 r2 r3 s1 s2 s3 bl ty g g4 Dm Km Zm u1 u2 u3 og σ hs ks kd sg hW hRC hRM hHC hHM hKC hKM hTC hTM
    · refine r_tabIn (off := 743) C 782 dL_law_39 (by decide) (by decide) (by decide) (by decide) ?_
      exact cs_setting hst hL h512 hi5 hL2 kk9 od cnt sz par fre pri sls drk pla tks par1 fre1 pri1 sls1 drk1 pla1 tks1 sd st par3 fre3 pri3 sls3 drk3 pla3 tks3 rf sp ou f f2 D K Z tx t1 t2 t3 r1 r2 r3 s1 s2 s3 bl ty g g4 Dm Km Zm u1 u2 u3 og σ hs ks kd sg hW hRC hRM hHC hHM hKC hKM hTC hTM
    · refine r_tabIn (off := 799) C 838 dL_law_39 (by decide) (by decide) (by decide) (by decide) ?_
      exact cs_addActor hst hL h512 hi5 hL2 kk9 od cnt sz par fre pri sls drk pla tks par1 fre1 pri1 sls1 drk1 pla1 tks1 sd st par3 fre3 pri3 sls3 drk3 pla3 tks3 rf sp ou f f2 D K Z tx t1 t2 t3 r1 r2 r3 s1 s2 s3 bl ty g g4 Dm Km Zm u1 u2 u3 og σ hs ks kd sg hW hRC hRM hHC hHM hKC hKM hTC hTM
    · refine r_tabIn (off := 855) C 894 dL_law_39 (by decide) (by decide) (by decide) (by decide) ?_
      exact cs_addPart hst hL h512 hi5 hL2 kk9 od cnt sz par fre pri sls drk pla tks par1 fre1 pri1 sls1 drk1 pla1 tks1 sd st par3 fre3 pri3 sls3 drk3 pla3 tks3 rf sp ou f f2 D K Z tx t1 t2 t3 r1 r2 r3 s1 s2 s3 bl ty g g4 Dm Km Zm u1 u2 u3 og σ hs ks kd sg hW hRC hRM hHC hHM hKC hKM hTC hTM
    · refine r_tabIn (off := 899) C 938 dL_law_39 (by decide) (by decide) (by decide) (by decide) ?_
      exact cs_cast hst hL h512 hi5 hL2 kk9 od cnt sz par fre pri sls drk pla tks par1 fre1 pri1 sls1 drk1 pla1 tks1 sd st par3 fre3 pri3 sls3 drk3 pla3 tks3 rf sp ou f f2 D K Z tx t1 t2 t3 r1 r2 r3 s1 s2 s3 bl ty g g4 Dm Km Zm u1 u2 u3 og σ hs ks kd sg hW hRC hRM hHC hHM hKC hKM hTC hTM
    · refine r_tabIn (off := 979) C 1018 dL_law_39 (by decide) (by decide) (by decide) (by decide) ?_
      exact cs_understudy hst hL h512 hi5 hL2 kk9 od cnt sz par fre pri sls drk pla tks par1 fre1 pri1 sls1 drk1 pla1 tks1 sd st par3 fre3 pri3 sls3 drk3 pla3 tks3 rf sp ou f f2 D K Z tx t1 t2 t3 r1 r2 r3 s1 s2 s3 bl ty g g4 Dm Km Zm u1 u2 u3 og σ hs ks kd sg hW hRC hRM hHC hHM hKC hKM hTC hTM
    · refine r_tabIn (off := 1047) C 1086 dL_law_39 (by decide) (by decide) (by decide) (by decide) ?_
      exact cs_release hst hL h512 hi5 hL2 kk9 od cnt sz par fre pri sls drk pla tks par1 fre1 pri1 sls1 drk1 pla1 tks1 sd st par3 fre3 pri3 sls3 drk3 pla3 tks3 rf sp ou f f2 D K Z tx t1 t2 t3 r1 r2 r3 s1 s2 s3 bl ty g g4 Dm Km Zm u1 u2 u3 og σ hs ks kd sg hW hRC hRM hHC hHM hKC hKM hTC hTM
    · refine r_tabIn (off := 1115) C 1154 dL_law_39 (by decide) (by decide) (by decide) (by decide) ?_
      exact cs_ill hst hL h512 hi5 hL2 kk9 od cnt sz par fre pri sls drk pla tks par1 fre1 pri1 sls1 drk1 pla1 tks1 sd st par3 fre3 pri3 sls3 drk3 pla3 tks3 rf sp ou f f2 D K Z tx t1 t2 t3 r1 r2 r3 s1 s2 s3 bl ty g g4 Dm Km Zm u1 u2 u3 og σ hs ks kd sg hW hRC hRM hHC hHM hKC hKM hTC hTM
    · refine r_tabIn (off := 1211) C 1250 dL_law_39 (by decide) (by decide) (by decide) (by decide) ?_
      exact cs_slip hst hL h512 hi5 hL2 kk9 od cnt sz par fre pri sls drk pla tks par1 fre1 pri1 sls1 drk1 pla1 tks1 sd st par3 fre3 pri3 sls3 drk3 pla3 tks3 rf sp ou f f2 D K Z tx t1 t2 t3 r1 r2 r3 s1 s2 s3 bl ty g g4 Dm Km Zm u1 u2 u3 og σ hs ks kd sg hW hRC hRM hHC hHM hKC hKM hTC hTM
    · refine r_tabIn (off := 1303) C 1342 dL_law_39 (by decide) (by decide) (by decide) (by decide) ?_
      exact cs_lose hst hL h512 hi5 hL2 kk9 od cnt sz par fre pri sls drk pla tks par1 fre1 pri1 sls1 drk1 pla1 tks1 sd st par3 fre3 pri3 sls3 drk3 pla3 tks3 rf sp ou f f2 D K Z tx t1 t2 t3 r1 r2 r3 s1 s2 s3 bl ty g g4 Dm Km Zm u1 u2 u3 og σ hs ks kd sg hW hRC hRM hHC hHM hKC hKM hTC hTM
    · refine r_tabIn (off := 1359) C 1398 dL_law_39 (by decide) (by decide) (by decide) (by decide) ?_
      exact cs_set hst hL h512 hi5 hL2 kk9 od cnt sz par fre pri sls drk pla tks par1 fre1 pri1 sls1 drk1 pla1 tks1 sd st par3 fre3 pri3 sls3 drk3 pla3 tks3 rf sp ou f f2 D K Z tx t1 t2 t3 r1 r2 r3 s1 s2 s3 bl ty g g4 Dm Km Zm u1 u2 u3 og σ hs ks kd sg hW hRC hRM hHC hHM hKC hKM hTC hTM
    · refine r_tabIn (off := 1427) C 1466 dL_law_39 (by decide) (by decide) (by decide) (by decide) ?_
      exact cs_undo hst hL h512 hi5 hL2 kk9 od cnt sz par fre pri sls drk pla tks par1 fre1 pri1 sls1 drk1 pla1 tks1 sd st par3 fre3 pri3 sls3 drk3 pla3 tks3 rf sp ou f f2 D K Z tx t1 t2 t3 r1 r2 r3 s1 s2 s3 bl ty g g4 Dm Km Zm u1 u2 u3 og σ hs ks kd sg hW hRC hRM hHC hHM hKC hKM hTC hTM
    · refine r_tabIn (off := 1471) C 1510 dL_law_39 (by decide) (by decide) (by decide) (by decide) ?_
      exact cs_find hst hL h512 hi5 hL2 kk9 od cnt sz par fre pri sls drk pla tks par1 fre1 pri1 sls1 drk1 pla1 tks1 sd st par3 fre3 pri3 sls3 drk3 pla3 tks3 rf sp ou f f2 D K Z tx t1 t2 t3 r1 r2 r3 s1 s2 s3 bl ty g g4 Dm Km Zm u1 u2 u3 og σ hs ks kd sg hW hRC hRM hHC hHM hKC hKM hTC hTM
    · refine r_tabIn (off := 1551) C 1590 dL_law_39 (by decide) (by decide) (by decide) (by decide) ?_
      exact cs_together hst hL h512 hi5 hL2 kk9 od cnt sz par fre pri sls drk pla tks par1 fre1 pri1 sls1 drk1 pla1 tks1 sd st par3 fre3 pri3 sls3 drk3 pla3 tks3 rf sp ou f f2 D K Z tx t1 t2 t3 r1 r2 r3 s1 s2 s3 bl ty g g4 Dm Km Zm u1 u2 u3 og σ hs ks kd sg hW hRC hRM hHC hHM hKC hKM hTC hTM
    · refine r_tabIn (off := 1619) C 1658 dL_law_39 (by decide) (by decide) (by decide) (by decide) ?_
      exact cs_longest hst hL h512 hi5 hL2 kk9 od cnt sz par fre pri sls drk pla tks par1 fre1 pri1 sls1 drk1 pla1 tks1 sd st par3 fre3 pri3 sls3 drk3 pla3 tks3 rf sp ou f f2 D K Z tx t1 t2 t3 r1 r2 r3 s1 s2 s3 bl ty g g4 Dm Km Zm u1 u2 u3 og σ hs ks kd sg hW hRC hRM hHC hHM hKC hKM hTC hTM
    · refine r_tabIn (off := 1687) C 1726 dL_law_39 (by decide) (by decide) (by decide) (by decide) ?_
      exact cs_ifIll hst hL h512 hi5 hL2 kk9 od cnt sz par fre pri sls drk pla tks par1 fre1 pri1 sls1 drk1 pla1 tks1 sd st par3 fre3 pri3 sls3 drk3 pla3 tks3 rf sp ou f f2 D K Z tx t1 t2 t3 r1 r2 r3 s1 s2 s3 bl ty g g4 Dm Km Zm u1 u2 u3 og σ hs ks kd sg hW hRC hRM hHC hHM hKC hKM hTC hTM
    · refine r_tabIn (off := 1767) C 1806 dL_law_39 (by decide) (by decide) (by decide) (by decide) ?_
      exact cs_bestUnderstudy hst hL h512 hi5 hL2 kk9 od cnt sz par fre pri sls drk pla tks par1 fre1 pri1 sls1 drk1 pla1 tks1 sd st par3 fre3 pri3 sls3 drk3 pla3 tks3 rf sp ou f f2 D K Z tx t1 t2 t3 r1 r2 r3 s1 s2 s3 bl ty g g4 Dm Km Zm u1 u2 u3 og σ hs ks kd sg hW hRC hRM hHC hHM hKC hKM hTC hTM
    · refine r_tabIn (off := 1823) C 1862 dL_law_39 (by decide) (by decide) (by decide) (by decide) ?_
      exact cs_needed hst hL h512 hi5 hL2 kk9 od cnt sz par fre pri sls drk pla tks par1 fre1 pri1 sls1 drk1 pla1 tks1 sd st par3 fre3 pri3 sls3 drk3 pla3 tks3 rf sp ou f f2 D K Z tx t1 t2 t3 r1 r2 r3 s1 s2 s3 bl ty g g4 Dm Km Zm u1 u2 u3 og σ hs ks kd sg hW hRC hRM hHC hHM hKC hKM hTC hTM
    · refine r_tabIn (off := 1836) C 1875 dL_law_39 (by decide) (by decide) (by decide) (by decide) ?_
      exact cs_runScript hst hL h512 hi5 hL2 kk9 od cnt sz par fre pri sls drk pla tks par1 fre1 pri1 sls1 drk1 pla1 tks1 sd st par3 fre3 pri3 sls3 drk3 pla3 tks3 rf sp ou f f2 D K Z tx t1 t2 t3 r1 r2 r3 s1 s2 s3 bl ty g g4 Dm Km Zm u1 u2 u3 og σ hs ks kd sg hW hRC hRM hHC hHM hKC hKM hTC hTM
    · refine r_tabIn (off := 1936) C 1975 dL_law_39 (by decide) (by decide) (by decide) (by decide) ?_
      exact cs_simulate hst hL h512 hi5 hL2 kk9 od cnt sz par fre pri sls drk pla tks par1 fre1 pri1 sls1 drk1 pla1 tks1 sd st par3 fre3 pri3 sls3 drk3 pla3 tks3 rf sp ou f f2 D K Z tx t1 t2 t3 r1 r2 r3 s1 s2 s3 bl ty g g4 Dm Km Zm u1 u2 u3 og σ hs ks kd sg hW hRC hRM hHC hHM hKC hKM hTC hTM
    · refine r_tabIn (off := 2036) C 2075 dL_law_39 (by decide) (by decide) (by decide) (by decide) ?_
      exact cs_save hst hL h512 hi5 hL2 kk9 od cnt sz par fre pri sls drk pla tks par1 fre1 pri1 sls1 drk1 pla1 tks1 sd st par3 fre3 pri3 sls3 drk3 pla3 tks3 rf sp ou f f2 D K Z tx t1 t2 t3 r1 r2 r3 s1 s2 s3 bl ty g g4 Dm Km Zm u1 u2 u3 og σ hs ks kd sg hW hRC hRM hHC hHM hKC hKM hTC hTM
    · refine r_tabIn (off := 2092) C 2131 dL_law_39 (by decide) (by decide) (by decide) (by decide) ?_
      exact cs_restore hst hL h512 hi5 hL2 kk9 od cnt sz par fre pri sls drk pla tks par1 fre1 pri1 sls1 drk1 pla1 tks1 sd st par3 fre3 pri3 sls3 drk3 pla3 tks3 rf sp ou f f2 D K Z tx t1 t2 t3 r1 r2 r3 s1 s2 s3 bl ty g g4 Dm Km Zm u1 u2 u3 og σ hs ks kd sg hW hRC hRM hHC hHM hKC hKM hTC hTM
