set_option maxRecDepth 100000 in
theorem t_part_full {l : Launch} {E : Ev} (hst : l.stackTraces = false) {α : Nat → Nat} {σ : Sg} {hs : Nat → Sg} {cnt : Nat} {ks : Nat → Sg} {kd : Nat → Nat} {w : va_W} (hA : Ar E α σ hs cnt ks kd w) (hx : ¬ sP σ < 6) : CtN l E yL_tryPart method_17_code 2 (some FieldType.int) (some [(0, 4, 5, 23)]) 7 130 1 [.ref (α 0)] w (fun v9 w9 => v9 = some (.int (-9999003)) ∧ Ar E α σ hs cnt ks kd w9) := by
  obtain ⟨od, sz, par, fre, pri, sls, drk, pla, tks, par1, fre1, pri1, sls1, drk1, pla1, tks1, sd, st, par3, fre3, pri3, sls3, drk3, pla3, tks3, f, f2, D, K, Z, tx, t1, t2, t3, r1, r2, r3, s1, s2, s3, bl, rfl, hW, hRC, hHC, hKC⟩ := hA
  have hwP := hW.P
  have hwA := hW.A
  have hwS := hW.S
  have h14 := hHC.1
  refine (wn_tryPart_S (is := [0, 1, 2]) (c_X5_addPart__t (hst := hst) (hB := (α 0)) (b1 := (α 1)) (b2 := (α 2)) (b3 := (α 3)) (b4 := (α 4)) (b5 := (α 5)) (b6 := (α 6)) (b7 := (α 7)) (b8 := (α 8)) (b9 := (α 9)) (b10 := (α 10)) (c1 := (α 12)) (f := f) (σ := σ) (hR := hRC) (hW := hW) (hx := (by omega))) rfl rfl rfl).mono ?_
  rintro v9 w9 ⟨u, rfl, rfl, rfl⟩
  exact ⟨rfl, ⟨od, sz, par, fre, pri, sls, drk, pla, tks, par1, fre1, pri1, sls1, drk1, pla1, tks1, sd, st, par3, fre3, pri3, sls3, drk3, pla3, tks3, f, f2, D, K, Z, tx, t1, t2, t3, r1, r2, r3, s1, s2, s3, bl, rfl, hW, hRC, hHC, hKC⟩⟩
set_option maxRecDepth 100000 in
theorem t_cast {l : Launch} {E : Ev} (hst : l.stackTraces = false) {α : Nat → Nat} {σ : Sg} {hs : Nat → Sg} {cnt : Nat} {ks : Nat → Sg} {kd : Nat → Nat} {w : va_W} (hA : Ar E α σ hs cnt ks kd w) {p x n : Nat}(hp : p < sP σ)(hn : n < 20)(hx : x ≤ sA σ) : CtN l E yL_tryCast method_18_code 5 (some FieldType.int) (some [(0, 7, 8, 13)]) 7 114 0 [.ref (α 0), .int (nI p), .int (mI x), .int (nI n)] w (fun v9 w9 => v9 = some (.int (mI (sR σ p n))) ∧ Ar E α (oCast σ p x n) (pushH hs cnt σ) (pushN cnt) ks kd w9) := by
  obtain ⟨od, sz, par, fre, pri, sls, drk, pla, tks, par1, fre1, pri1, sls1, drk1, pla1, tks1, sd, st, par3, fre3, pri3, sls3, drk3, pla3, tks3, f, f2, D, K, Z, tx, t1, t2, t3, r1, r2, r3, s1, s2, s3, bl, rfl, hW, hRC, hHC, hKC⟩ := hA
  have hwP := hW.P
  have hwA := hW.A
  have hwS := hW.S
  have h14 := hHC.1
  refine (wo_tryCast (is := [0, 1, 2, 5, 6]) (c_X5_cast__m (hB := (α 0)) (b1 := (α 1)) (b2 := (α 2)) (b3 := (α 3)) (b4 := (α 4)) (b5 := (α 5)) (b6 := (α 6)) (b7 := (α 7)) (b8 := (α 8)) (b9 := (α 9)) (b10 := (α 10)) (c1 := (α 12)) (f := f) (σ := σ) (c3 := (α 14)) (od := od) (cnt := cnt) (D := D) (hs := hs) (p := p) (x := x) (n := n) (hR := hRC) (hW := hW) (hH := hHC) (hp := (by omega)) (hx := (by omega)) (hn := (by omega))) (fun v u h => by obtain ⟨z0, z1, z2, rfl, rfl, F0, F1⟩ := h; exact ⟨⟨_, rfl⟩, rfl⟩) rfl rfl rfl).mono ?_
  rintro v9 w9 ⟨u, ⟨z0, z1, z2, rfl, rfl, F0, F1⟩, rfl⟩
  exact ⟨rfl, ⟨z1, sz, par, fre, pri, sls, drk, pla, tks, par1, fre1, pri1, sls1, drk1, pla1, tks1, sd, st, par3, fre3, pri3, sls3, drk3, pla3, tks3, z0, f2, z2, K, Z, tx, t1, t2, t3, r1, r2, r3, s1, s2, s3, bl, rfl, oCast_wf hW hx, F0, F1, hKC⟩⟩
set_option maxRecDepth 100000 in
theorem t_cast_no {l : Launch} {E : Ev} (hst : l.stackTraces = false) {α : Nat → Nat} {σ : Sg} {hs : Nat → Sg} {cnt : Nat} {ks : Nat → Sg} {kd : Nat → Nat} {w : va_W} (hA : Ar E α σ hs cnt ks kd w) {x y z : Int32}(hx : ¬ (vI x (sP σ) ∧ vI z 20 ∧ (y = mI 0 ∨ vI y (sA σ)))) : CtN l E yL_tryCast method_18_code 5 (some FieldType.int) (some [(0, 7, 8, 13)]) 7 114 1 [.ref (α 0), .int x, .int y, .int z] w (fun v9 w9 => v9 = some (.int (-9999001)) ∧ Ar E α σ hs cnt ks kd w9) := by
  obtain ⟨od, sz, par, fre, pri, sls, drk, pla, tks, par1, fre1, pri1, sls1, drk1, pla1, tks1, sd, st, par3, fre3, pri3, sls3, drk3, pla3, tks3, f, f2, D, K, Z, tx, t1, t2, t3, r1, r2, r3, s1, s2, s3, bl, rfl, hW, hRC, hHC, hKC⟩ := hA
  have hwP := hW.P
  have hwA := hW.A
  have hwS := hW.S
  have h14 := hHC.1
  refine (wn_tryCast_B (is := [0, 1, 2]) (c_X5_cast__t (hst := hst) (hB := (α 0)) (b1 := (α 1)) (b2 := (α 2)) (b3 := (α 3)) (b4 := (α 4)) (b5 := (α 5)) (b6 := (α 6)) (b7 := (α 7)) (b8 := (α 8)) (b9 := (α 9)) (b10 := (α 10)) (c1 := (α 12)) (f := f) (σ := σ) (p := x) (a := y) (n := z) (hR := hRC) (hW := hW) (hx := hx)) rfl rfl rfl).mono ?_
  rintro v9 w9 ⟨u, rfl, rfl, rfl⟩
  exact ⟨rfl, ⟨od, sz, par, fre, pri, sls, drk, pla, tks, par1, fre1, pri1, sls1, drk1, pla1, tks1, sd, st, par3, fre3, pri3, sls3, drk3, pla3, tks3, f, f2, D, K, Z, tx, t1, t2, t3, r1, r2, r3, s1, s2, s3, bl, rfl, hW, hRC, hHC, hKC⟩⟩
set_option maxRecDepth 100000 in
theorem t_study {l : Launch} {E : Ev} (hst : l.stackTraces = false) {α : Nat → Nat} {σ : Sg} {hs : Nat → Sg} {cnt : Nat} {ks : Nat → Sg} {kd : Nat → Nat} {w : va_W} (hA : Ar E α σ hs cnt ks kd w) {p a : Nat}(hp : p < sP σ)(ha : a < sA σ)(hq : sC σ p < 4) (hr : rk σ p a = 0) : CtN l E yL_tryStudy method_19_code 4 (some FieldType.int) (some [(0, 6, 7, 13), (0, 6, 11, 23)]) 8 133 0 [.ref (α 0), .int (nI p), .int (nI a)] w (fun v9 w9 => v9 = some (.int (nI (sC σ p + 1))) ∧ Ar E α (oStudy σ p a) (pushH hs cnt σ) (pushN cnt) ks kd w9) := by
  obtain ⟨od, sz, par, fre, pri, sls, drk, pla, tks, par1, fre1, pri1, sls1, drk1, pla1, tks1, sd, st, par3, fre3, pri3, sls3, drk3, pla3, tks3, f, f2, D, K, Z, tx, t1, t2, t3, r1, r2, r3, s1, s2, s3, bl, rfl, hW, hRC, hHC, hKC⟩ := hA
  have hwP := hW.P
  have hwA := hW.A
  have hwS := hW.S
  have h14 := hHC.1
  refine (wo_tryStudy (is := [0, 1, 2, 5, 6]) (c_X5_understudy (hB := (α 0)) (b1 := (α 1)) (b2 := (α 2)) (b3 := (α 3)) (b4 := (α 4)) (b5 := (α 5)) (b6 := (α 6)) (b7 := (α 7)) (b8 := (α 8)) (b9 := (α 9)) (b10 := (α 10)) (c1 := (α 12)) (f := f) (σ := σ) (c3 := (α 14)) (od := od) (cnt := cnt) (D := D) (hs := hs) (p := p) (a := a) (hR := hRC) (hW := hW) (hH := hHC) (hp := (by omega)) (ha := (by omega)) (hC := (by omega)) (hrk := (by omega))) (fun v u h => by obtain ⟨z0, z1, z2, rfl, rfl, F0, F1⟩ := h; exact ⟨⟨_, rfl⟩, rfl⟩) rfl rfl rfl).mono ?_
  rintro v9 w9 ⟨u, ⟨z0, z1, z2, rfl, rfl, F0, F1⟩, rfl⟩
  exact ⟨rfl, ⟨z1, sz, par, fre, pri, sls, drk, pla, tks, par1, fre1, pri1, sls1, drk1, pla1, tks1, sd, st, par3, fre3, pri3, sls3, drk3, pla3, tks3, z0, f2, z2, K, Z, tx, t1, t2, t3, r1, r2, r3, s1, s2, s3, bl, rfl, oStudy_wf hW ha hq, F0, F1, hKC⟩⟩
set_option maxRecDepth 100000 in
theorem t_study_nb {l : Launch} {E : Ev} (hst : l.stackTraces = false) {α : Nat → Nat} {σ : Sg} {hs : Nat → Sg} {cnt : Nat} {ks : Nat → Sg} {kd : Nat → Nat} {w : va_W} (hA : Ar E α σ hs cnt ks kd w) {p : Nat}{x : Int32}(hp : p < sP σ)(hx : ¬ vI x (sA σ)) : CtN l E yL_tryStudy method_19_code 4 (some FieldType.int) (some [(0, 6, 7, 13), (0, 6, 11, 23)]) 8 133 1 [.ref (α 0), .int (nI p), .int x] w (fun v9 w9 => v9 = some (.int (-9999001)) ∧ Ar E α σ hs cnt ks kd w9) := by
  obtain ⟨od, sz, par, fre, pri, sls, drk, pla, tks, par1, fre1, pri1, sls1, drk1, pla1, tks1, sd, st, par3, fre3, pri3, sls3, drk3, pla3, tks3, f, f2, D, K, Z, tx, t1, t2, t3, r1, r2, r3, s1, s2, s3, bl, rfl, hW, hRC, hHC, hKC⟩ := hA
  have hwP := hW.P
  have hwA := hW.A
  have hwS := hW.S
  have h14 := hHC.1
  refine (wn_tryStudy_B (is := [0, 1, 2]) (c_X5_understudy__tb (hst := hst) (hB := (α 0)) (b1 := (α 1)) (b2 := (α 2)) (b3 := (α 3)) (b4 := (α 4)) (b5 := (α 5)) (b6 := (α 6)) (b7 := (α 7)) (b8 := (α 8)) (b9 := (α 9)) (b10 := (α 10)) (c1 := (α 12)) (f := f) (σ := σ) (p := p) (a := x) (hR := hRC) (hW := hW) (h1 := (by omega)) (hx := hx)) rfl rfl rfl).mono ?_
  rintro v9 w9 ⟨u, rfl, rfl, rfl⟩
  exact ⟨rfl, ⟨od, sz, par, fre, pri, sls, drk, pla, tks, par1, fre1, pri1, sls1, drk1, pla1, tks1, sd, st, par3, fre3, pri3, sls3, drk3, pla3, tks3, f, f2, D, K, Z, tx, t1, t2, t3, r1, r2, r3, s1, s2, s3, bl, rfl, hW, hRC, hHC, hKC⟩⟩
set_option maxRecDepth 100000 in
theorem t_study_nc {l : Launch} {E : Ev} (hst : l.stackTraces = false) {α : Nat → Nat} {σ : Sg} {hs : Nat → Sg} {cnt : Nat} {ks : Nat → Sg} {kd : Nat → Nat} {w : va_W} (hA : Ar E α σ hs cnt ks kd w) {p a : Nat}(hp : p < sP σ)(ha : a < sA σ)(hx : ¬ (sC σ p < 4 ∧ rk σ p a = 0)) : CtN l E yL_tryStudy method_19_code 4 (some FieldType.int) (some [(0, 6, 7, 13), (0, 6, 11, 23)]) 8 133 1 [.ref (α 0), .int (nI p), .int (nI a)] w (fun v9 w9 => v9 = some (.int (-9999003)) ∧ Ar E α σ hs cnt ks kd w9) := by
  obtain ⟨od, sz, par, fre, pri, sls, drk, pla, tks, par1, fre1, pri1, sls1, drk1, pla1, tks1, sd, st, par3, fre3, pri3, sls3, drk3, pla3, tks3, f, f2, D, K, Z, tx, t1, t2, t3, r1, r2, r3, s1, s2, s3, bl, rfl, hW, hRC, hHC, hKC⟩ := hA
  have hwP := hW.P
  have hwA := hW.A
  have hwS := hW.S
  have h14 := hHC.1
  refine (wn_tryStudy_S (is := [0, 1, 2]) (c_X5_understudy__tc (hst := hst) (hB := (α 0)) (b1 := (α 1)) (b2 := (α 2)) (b3 := (α 3)) (b4 := (α 4)) (b5 := (α 5)) (b6 := (α 6)) (b7 := (α 7)) (b8 := (α 8)) (b9 := (α 9)) (b10 := (α 10)) (c1 := (α 12)) (f := f) (σ := σ) (p := p) (a := a) (hR := hRC) (hW := hW) (hp := (by omega)) (ha := (by omega)) (hx := hx)) rfl rfl rfl).mono ?_
  rintro v9 w9 ⟨u, rfl, rfl, rfl⟩
  exact ⟨rfl, ⟨od, sz, par, fre, pri, sls, drk, pla, tks, par1, fre1, pri1, sls1, drk1, pla1, tks1, sd, st, par3, fre3, pri3, sls3, drk3, pla3, tks3, f, f2, D, K, Z, tx, t1, t2, t3, r1, r2, r3, s1, s2, s3, bl, rfl, hW, hRC, hHC, hKC⟩⟩
set_option maxRecDepth 100000 in
theorem t_release {l : Launch} {E : Ev} (hst : l.stackTraces = false) {α : Nat → Nat} {σ : Sg} {hs : Nat → Sg} {cnt : Nat} {ks : Nat → Sg} {kd : Nat → Nat} {w : va_W} (hA : Ar E α σ hs cnt ks kd w) {p a : Nat}(hp : p < sP σ)(ha : a < sA σ)(hq : rk σ p a ≠ 0) : CtN l E yL_tryRelease method_20_code 4 (some FieldType.int) (some [(0, 6, 7, 13), (0, 6, 11, 23)]) 8 134 0 [.ref (α 0), .int (nI p), .int (nI a)] w (fun v9 w9 => v9 = some (.int (nI (rk σ p a - 1))) ∧ Ar E α (oRel σ p (rk σ p a - 1)) (pushH hs cnt σ) (pushN cnt) ks kd w9) := by
  obtain ⟨od, sz, par, fre, pri, sls, drk, pla, tks, par1, fre1, pri1, sls1, drk1, pla1, tks1, sd, st, par3, fre3, pri3, sls3, drk3, pla3, tks3, f, f2, D, K, Z, tx, t1, t2, t3, r1, r2, r3, s1, s2, s3, bl, rfl, hW, hRC, hHC, hKC⟩ := hA
  have hwP := hW.P
  have hwA := hW.A
  have hwS := hW.S
  have h14 := hHC.1
  refine (wo_tryRelease (is := [0, 1, 2, 5, 6]) (c_X5_release (hB := (α 0)) (b1 := (α 1)) (b2 := (α 2)) (b3 := (α 3)) (b4 := (α 4)) (b5 := (α 5)) (b6 := (α 6)) (b7 := (α 7)) (b8 := (α 8)) (b9 := (α 9)) (b10 := (α 10)) (c1 := (α 12)) (f := f) (σ := σ) (c3 := (α 14)) (od := od) (cnt := cnt) (D := D) (hs := hs) (p := p) (a := a) (hR := hRC) (hW := hW) (hH := hHC) (hp := (by omega)) (ha := (by omega)) (hrk := (by omega))) (fun v u h => by obtain ⟨z0, z1, z2, rfl, rfl, F0, F1⟩ := h; exact ⟨⟨_, rfl⟩, rfl⟩) rfl rfl rfl).mono ?_
  rintro v9 w9 ⟨u, ⟨z0, z1, z2, rfl, rfl, F0, F1⟩, rfl⟩
  exact ⟨rfl, ⟨z1, sz, par, fre, pri, sls, drk, pla, tks, par1, fre1, pri1, sls1, drk1, pla1, tks1, sd, st, par3, fre3, pri3, sls3, drk3, pla3, tks3, z0, f2, z2, K, Z, tx, t1, t2, t3, r1, r2, r3, s1, s2, s3, bl, rfl, oRel_wf hW, F0, F1, hKC⟩⟩
set_option maxRecDepth 100000 in
theorem t_release_na {l : Launch} {E : Ev} (hst : l.stackTraces = false) {α : Nat → Nat} {σ : Sg} {hs : Nat → Sg} {cnt : Nat} {ks : Nat → Sg} {kd : Nat → Nat} {w : va_W} (hA : Ar E α σ hs cnt ks kd w) {x y : Int32}(hx : ¬ vI x (sP σ)) : CtN l E yL_tryRelease method_20_code 4 (some FieldType.int) (some [(0, 6, 7, 13), (0, 6, 11, 23)]) 8 134 1 [.ref (α 0), .int x, .int y] w (fun v9 w9 => v9 = some (.int (-9999001)) ∧ Ar E α σ hs cnt ks kd w9) := by
  obtain ⟨od, sz, par, fre, pri, sls, drk, pla, tks, par1, fre1, pri1, sls1, drk1, pla1, tks1, sd, st, par3, fre3, pri3, sls3, drk3, pla3, tks3, f, f2, D, K, Z, tx, t1, t2, t3, r1, r2, r3, s1, s2, s3, bl, rfl, hW, hRC, hHC, hKC⟩ := hA
  have hwP := hW.P
  have hwA := hW.A
  have hwS := hW.S
  have h14 := hHC.1
  refine (wn_tryRelease_B (is := [0, 1, 2]) (c_X5_release__ta (hst := hst) (hB := (α 0)) (b1 := (α 1)) (b2 := (α 2)) (b3 := (α 3)) (b4 := (α 4)) (b5 := (α 5)) (b6 := (α 6)) (b7 := (α 7)) (b8 := (α 8)) (b9 := (α 9)) (b10 := (α 10)) (c1 := (α 12)) (f := f) (σ := σ) (p := x) (a := y) (hR := hRC) (hW := hW) (hx := hx)) rfl rfl rfl).mono ?_
  rintro v9 w9 ⟨u, rfl, rfl, rfl⟩
  exact ⟨rfl, ⟨od, sz, par, fre, pri, sls, drk, pla, tks, par1, fre1, pri1, sls1, drk1, pla1, tks1, sd, st, par3, fre3, pri3, sls3, drk3, pla3, tks3, f, f2, D, K, Z, tx, t1, t2, t3, r1, r2, r3, s1, s2, s3, bl, rfl, hW, hRC, hHC, hKC⟩⟩
set_option maxRecDepth 100000 in
theorem t_release_nc {l : Launch} {E : Ev} (hst : l.stackTraces = false) {α : Nat → Nat} {σ : Sg} {hs : Nat → Sg} {cnt : Nat} {ks : Nat → Sg} {kd : Nat → Nat} {w : va_W} (hA : Ar E α σ hs cnt ks kd w) {p a : Nat}(hp : p < sP σ)(ha : a < sA σ)(hx : rk σ p a = 0) : CtN l E yL_tryRelease method_20_code 4 (some FieldType.int) (some [(0, 6, 7, 13), (0, 6, 11, 23)]) 8 134 1 [.ref (α 0), .int (nI p), .int (nI a)] w (fun v9 w9 => v9 = some (.int (-9999003)) ∧ Ar E α σ hs cnt ks kd w9) := by
  obtain ⟨od, sz, par, fre, pri, sls, drk, pla, tks, par1, fre1, pri1, sls1, drk1, pla1, tks1, sd, st, par3, fre3, pri3, sls3, drk3, pla3, tks3, f, f2, D, K, Z, tx, t1, t2, t3, r1, r2, r3, s1, s2, s3, bl, rfl, hW, hRC, hHC, hKC⟩ := hA
  have hwP := hW.P
  have hwA := hW.A
  have hwS := hW.S
  have h14 := hHC.1
  refine (wn_tryRelease_S (is := [0, 1, 2]) (c_X5_release__tc (hst := hst) (hB := (α 0)) (b1 := (α 1)) (b2 := (α 2)) (b3 := (α 3)) (b4 := (α 4)) (b5 := (α 5)) (b6 := (α 6)) (b7 := (α 7)) (b8 := (α 8)) (b9 := (α 9)) (b10 := (α 10)) (c1 := (α 12)) (f := f) (σ := σ) (p := p) (a := a) (hR := hRC) (hW := hW) (hp := (by omega)) (ha := (by omega)) (hx := (by omega))) rfl rfl rfl).mono ?_
  rintro v9 w9 ⟨u, rfl, rfl, rfl⟩
  exact ⟨rfl, ⟨od, sz, par, fre, pri, sls, drk, pla, tks, par1, fre1, pri1, sls1, drk1, pla1, tks1, sd, st, par3, fre3, pri3, sls3, drk3, pla3, tks3, f, f2, D, K, Z, tx, t1, t2, t3, r1, r2, r3, s1, s2, s3, bl, rfl, hW, hRC, hHC, hKC⟩⟩
set_option maxRecDepth 100000 in
theorem t_lose {l : Launch} {E : Ev} (hst : l.stackTraces = false) {α : Nat → Nat} {σ : Sg} {hs : Nat → Sg} {cnt : Nat} {ks : Nat → Sg} {kd : Nat → Nat} {w : va_W} (hA : Ar E α σ hs cnt ks kd w) {k : Nat}(hk : k < sS σ) : CtN l E yL_tryLose method_21_code 3 (some FieldType.int) (some [(0, 5, 6, 13)]) 8 132 0 [.ref (α 0), .int (nI k)] w (fun v9 w9 => v9 = some (.int (nI (sS σ - 1))) ∧ Ar E α (oLose σ k) (pushH hs cnt σ) (pushN cnt) ks kd w9) := by
  obtain ⟨od, sz, par, fre, pri, sls, drk, pla, tks, par1, fre1, pri1, sls1, drk1, pla1, tks1, sd, st, par3, fre3, pri3, sls3, drk3, pla3, tks3, f, f2, D, K, Z, tx, t1, t2, t3, r1, r2, r3, s1, s2, s3, bl, rfl, hW, hRC, hHC, hKC⟩ := hA
  have hwP := hW.P
  have hwA := hW.A
  have hwS := hW.S
  have h14 := hHC.1
  refine (wo_tryLose (is := [0, 1, 2, 5, 6]) (c_X5_lose (hB := (α 0)) (b1 := (α 1)) (b2 := (α 2)) (b3 := (α 3)) (b4 := (α 4)) (b5 := (α 5)) (b6 := (α 6)) (b7 := (α 7)) (b8 := (α 8)) (b9 := (α 9)) (b10 := (α 10)) (c1 := (α 12)) (f := f) (σ := σ) (c3 := (α 14)) (od := od) (cnt := cnt) (D := D) (hs := hs) (k := k) (hR := hRC) (hW := hW) (hH := hHC) (hk := (by omega))) (fun v u h => by obtain ⟨z0, z1, z2, rfl, rfl, F0, F1⟩ := h; exact ⟨⟨_, rfl⟩, rfl⟩) rfl rfl rfl).mono ?_
  rintro v9 w9 ⟨u, ⟨z0, z1, z2, rfl, rfl, F0, F1⟩, rfl⟩
  exact ⟨rfl, ⟨z1, sz, par, fre, pri, sls, drk, pla, tks, par1, fre1, pri1, sls1, drk1, pla1, tks1, sd, st, par3, fre3, pri3, sls3, drk3, pla3, tks3, z0, f2, z2, K, Z, tx, t1, t2, t3, r1, r2, r3, s1, s2, s3, bl, rfl, oLose_wf hW, F0, F1, hKC⟩⟩
set_option maxRecDepth 100000 in
theorem t_lose_no {l : Launch} {E : Ev} (hst : l.stackTraces = false) {α : Nat → Nat} {σ : Sg} {hs : Nat → Sg} {cnt : Nat} {ks : Nat → Sg} {kd : Nat → Nat} {w : va_W} (hA : Ar E α σ hs cnt ks kd w) {x : Int32}(hx : ¬ vI x (sS σ)) : CtN l E yL_tryLose method_21_code 3 (some FieldType.int) (some [(0, 5, 6, 13)]) 8 132 1 [.ref (α 0), .int x] w (fun v9 w9 => v9 = some (.int (-9999001)) ∧ Ar E α σ hs cnt ks kd w9) := by
  obtain ⟨od, sz, par, fre, pri, sls, drk, pla, tks, par1, fre1, pri1, sls1, drk1, pla1, tks1, sd, st, par3, fre3, pri3, sls3, drk3, pla3, tks3, f, f2, D, K, Z, tx, t1, t2, t3, r1, r2, r3, s1, s2, s3, bl, rfl, hW, hRC, hHC, hKC⟩ := hA
  have hwP := hW.P
  have hwA := hW.A
  have hwS := hW.S
  have h14 := hHC.1
  refine (wn_tryLose_B (is := [0, 1, 2]) (c_X5_lose__t (hst := hst) (hB := (α 0)) (b1 := (α 1)) (b2 := (α 2)) (b3 := (α 3)) (b4 := (α 4)) (b5 := (α 5)) (b6 := (α 6)) (b7 := (α 7)) (b8 := (α 8)) (b9 := (α 9)) (b10 := (α 10)) (c1 := (α 12)) (f := f) (σ := σ) (k := x) (hR := hRC) (hW := hW) (hx := hx)) rfl rfl rfl).mono ?_
  rintro v9 w9 ⟨u, rfl, rfl, rfl⟩
  exact ⟨rfl, ⟨od, sz, par, fre, pri, sls, drk, pla, tks, par1, fre1, pri1, sls1, drk1, pla1, tks1, sd, st, par3, fre3, pri3, sls3, drk3, pla3, tks3, f, f2, D, K, Z, tx, t1, t2, t3, r1, r2, r3, s1, s2, s3, bl, rfl, hW, hRC, hHC, hKC⟩⟩
set_option maxRecDepth 100000 in
theorem t_lay_0 {l : Launch} {E : Ev} (hst : l.stackTraces = false) {α : Nat → Nat} {σ : Sg} {hs : Nat → Sg} {cnt : Nat} {ks : Nat → Sg} {kd : Nat → Nat} {w : va_W} (hA : Ar E α σ hs cnt ks kd w) {k : Nat}(hk : k < 100) : CtN l E yL_tryLay method_22_code 4 (some FieldType.int) (some [(0, 6, 7, 20)]) 8 133 0 [.ref (α 0), .int (nI 0), .int (nI k)] w (fun v9 w9 => v9 = some (.int (nI (sO σ 0))) ∧ Ar E α (oSet σ 0 k) (pushH hs cnt σ) (pushN cnt) ks kd w9) := by
  obtain ⟨od, sz, par, fre, pri, sls, drk, pla, tks, par1, fre1, pri1, sls1, drk1, pla1, tks1, sd, st, par3, fre3, pri3, sls3, drk3, pla3, tks3, f, f2, D, K, Z, tx, t1, t2, t3, r1, r2, r3, s1, s2, s3, bl, rfl, hW, hRC, hHC, hKC⟩ := hA
  have hwP := hW.P
  have hwA := hW.A
  have hwS := hW.S
  have h14 := hHC.1
  refine (wo_tryLay (is := [0, 1, 2, 5, 6]) (c_X5_set (hB := (α 0)) (b1 := (α 1)) (b2 := (α 2)) (b3 := (α 3)) (b4 := (α 4)) (b5 := (α 5)) (b6 := (α 6)) (b7 := (α 7)) (b8 := (α 8)) (b9 := (α 9)) (b10 := (α 10)) (c1 := (α 12)) (f := f) (σ := σ) (c3 := (α 14)) (od := od) (cnt := cnt) (D := D) (hs := hs) (w := 0) (v := k) (hR := hRC) (hW := hW) (hH := hHC) (hw := (by omega)) (hv := (by show k ≤ 99; omega))) (fun v u h => by obtain ⟨z0, z1, z2, rfl, rfl, F0, F1⟩ := h; exact ⟨⟨_, rfl⟩, rfl⟩) rfl rfl rfl).mono ?_
  rintro v9 w9 ⟨u, ⟨z0, z1, z2, rfl, rfl, F0, F1⟩, rfl⟩
  exact ⟨rfl, ⟨z1, sz, par, fre, pri, sls, drk, pla, tks, par1, fre1, pri1, sls1, drk1, pla1, tks1, sd, st, par3, fre3, pri3, sls3, drk3, pla3, tks3, z0, f2, z2, K, Z, tx, t1, t2, t3, r1, r2, r3, s1, s2, s3, bl, rfl, oSet_wf hW (fun _ => by omega) (fun _ => by omega), F0, F1, hKC⟩⟩
set_option maxRecDepth 100000 in
theorem t_lay_nb0 {l : Launch} {E : Ev} (hst : l.stackTraces = false) {α : Nat → Nat} {σ : Sg} {hs : Nat → Sg} {cnt : Nat} {ks : Nat → Sg} {kd : Nat → Nat} {w : va_W} (hA : Ar E α σ hs cnt ks kd w) {x : Int32}(hx : ¬ vI x 100) : CtN l E yL_tryLay method_22_code 4 (some FieldType.int) (some [(0, 6, 7, 20)]) 8 133 1 [.ref (α 0), .int (nI 0), .int x] w (fun v9 w9 => v9 = some (.int (-9999002)) ∧ Ar E α σ hs cnt ks kd w9) := by
  obtain ⟨od, sz, par, fre, pri, sls, drk, pla, tks, par1, fre1, pri1, sls1, drk1, pla1, tks1, sd, st, par3, fre3, pri3, sls3, drk3, pla3, tks3, f, f2, D, K, Z, tx, t1, t2, t3, r1, r2, r3, s1, s2, s3, bl, rfl, hW, hRC, hHC, hKC⟩ := hA
  have hwP := hW.P
  have hwA := hW.A
  have hwS := hW.S
  have h14 := hHC.1
  refine (wn_tryLay_A (is := [0, 1, 2]) (c_X5_set__tb0 (hst := hst) (hB := (α 0)) (b1 := (α 1)) (b2 := (α 2)) (b3 := (α 3)) (b4 := (α 4)) (b5 := (α 5)) (b6 := (α 6)) (b7 := (α 7)) (b8 := (α 8)) (b9 := (α 9)) (b10 := (α 10)) (c1 := (α 12)) (f := f) (σ := σ) (v := x) (hR := hRC) (hW := hW) (hx := hx)) rfl rfl rfl).mono ?_
  rintro v9 w9 ⟨u, rfl, rfl, rfl⟩
  exact ⟨rfl, ⟨od, sz, par, fre, pri, sls, drk, pla, tks, par1, fre1, pri1, sls1, drk1, pla1, tks1, sd, st, par3, fre3, pri3, sls3, drk3, pla3, tks3, f, f2, D, K, Z, tx, t1, t2, t3, r1, r2, r3, s1, s2, s3, bl, rfl, hW, hRC, hHC, hKC⟩⟩
set_option maxRecDepth 100000 in
theorem t_lay_1 {l : Launch} {E : Ev} (hst : l.stackTraces = false) {α : Nat → Nat} {σ : Sg} {hs : Nat → Sg} {cnt : Nat} {ks : Nat → Sg} {kd : Nat → Nat} {w : va_W} (hA : Ar E α σ hs cnt ks kd w) {k : Nat}(hk : k < 10) : CtN l E yL_tryLay method_22_code 4 (some FieldType.int) (some [(0, 6, 7, 20)]) 8 133 0 [.ref (α 0), .int (nI 1), .int (nI k)] w (fun v9 w9 => v9 = some (.int (nI (sO σ 1))) ∧ Ar E α (oSet σ 1 k) (pushH hs cnt σ) (pushN cnt) ks kd w9) := by
  obtain ⟨od, sz, par, fre, pri, sls, drk, pla, tks, par1, fre1, pri1, sls1, drk1, pla1, tks1, sd, st, par3, fre3, pri3, sls3, drk3, pla3, tks3, f, f2, D, K, Z, tx, t1, t2, t3, r1, r2, r3, s1, s2, s3, bl, rfl, hW, hRC, hHC, hKC⟩ := hA
  have hwP := hW.P
  have hwA := hW.A
  have hwS := hW.S
  have h14 := hHC.1
  refine (wo_tryLay (is := [0, 1, 2, 5, 6]) (c_X5_set (hB := (α 0)) (b1 := (α 1)) (b2 := (α 2)) (b3 := (α 3)) (b4 := (α 4)) (b5 := (α 5)) (b6 := (α 6)) (b7 := (α 7)) (b8 := (α 8)) (b9 := (α 9)) (b10 := (α 10)) (c1 := (α 12)) (f := f) (σ := σ) (c3 := (α 14)) (od := od) (cnt := cnt) (D := D) (hs := hs) (w := 1) (v := k) (hR := hRC) (hW := hW) (hH := hHC) (hw := (by omega)) (hv := (by show k ≤ 9; omega))) (fun v u h => by obtain ⟨z0, z1, z2, rfl, rfl, F0, F1⟩ := h; exact ⟨⟨_, rfl⟩, rfl⟩) rfl rfl rfl).mono ?_
  rintro v9 w9 ⟨u, ⟨z0, z1, z2, rfl, rfl, F0, F1⟩, rfl⟩
  exact ⟨rfl, ⟨z1, sz, par, fre, pri, sls, drk, pla, tks, par1, fre1, pri1, sls1, drk1, pla1, tks1, sd, st, par3, fre3, pri3, sls3, drk3, pla3, tks3, z0, f2, z2, K, Z, tx, t1, t2, t3, r1, r2, r3, s1, s2, s3, bl, rfl, oSet_wf hW (fun _ => by omega) (fun _ => by omega), F0, F1, hKC⟩⟩
set_option maxRecDepth 100000 in
theorem t_lay_nb1 {l : Launch} {E : Ev} (hst : l.stackTraces = false) {α : Nat → Nat} {σ : Sg} {hs : Nat → Sg} {cnt : Nat} {ks : Nat → Sg} {kd : Nat → Nat} {w : va_W} (hA : Ar E α σ hs cnt ks kd w) {x : Int32}(hx : ¬ vI x 10) : CtN l E yL_tryLay method_22_code 4 (some FieldType.int) (some [(0, 6, 7, 20)]) 8 133 1 [.ref (α 0), .int (nI 1), .int x] w (fun v9 w9 => v9 = some (.int (-9999002)) ∧ Ar E α σ hs cnt ks kd w9) := by
  obtain ⟨od, sz, par, fre, pri, sls, drk, pla, tks, par1, fre1, pri1, sls1, drk1, pla1, tks1, sd, st, par3, fre3, pri3, sls3, drk3, pla3, tks3, f, f2, D, K, Z, tx, t1, t2, t3, r1, r2, r3, s1, s2, s3, bl, rfl, hW, hRC, hHC, hKC⟩ := hA
  have hwP := hW.P
  have hwA := hW.A
  have hwS := hW.S
  have h14 := hHC.1
  refine (wn_tryLay_A (is := [0, 1, 2]) (c_X5_set__tb1 (hst := hst) (hB := (α 0)) (b1 := (α 1)) (b2 := (α 2)) (b3 := (α 3)) (b4 := (α 4)) (b5 := (α 5)) (b6 := (α 6)) (b7 := (α 7)) (b8 := (α 8)) (b9 := (α 9)) (b10 := (α 10)) (c1 := (α 12)) (f := f) (σ := σ) (v := x) (hR := hRC) (hW := hW) (hx := hx)) rfl rfl rfl).mono ?_
  rintro v9 w9 ⟨u, rfl, rfl, rfl⟩
  exact ⟨rfl, ⟨od, sz, par, fre, pri, sls, drk, pla, tks, par1, fre1, pri1, sls1, drk1, pla1, tks1, sd, st, par3, fre3, pri3, sls3, drk3, pla3, tks3, f, f2, D, K, Z, tx, t1, t2, t3, r1, r2, r3, s1, s2, s3, bl, rfl, hW, hRC, hHC, hKC⟩⟩
set_option maxRecDepth 100000 in
theorem t_lay_na {l : Launch} {E : Ev} (hst : l.stackTraces = false) {α : Nat → Nat} {σ : Sg} {hs : Nat → Sg} {cnt : Nat} {ks : Nat → Sg} {kd : Nat → Nat} {w : va_W} (hA : Ar E α σ hs cnt ks kd w) {x y : Int32}(hx : ¬ vI x 2) : CtN l E yL_tryLay method_22_code 4 (some FieldType.int) (some [(0, 6, 7, 20)]) 8 133 1 [.ref (α 0), .int x, .int y] w (fun v9 w9 => v9 = some (.int (-9999002)) ∧ Ar E α σ hs cnt ks kd w9) := by
  obtain ⟨od, sz, par, fre, pri, sls, drk, pla, tks, par1, fre1, pri1, sls1, drk1, pla1, tks1, sd, st, par3, fre3, pri3, sls3, drk3, pla3, tks3, f, f2, D, K, Z, tx, t1, t2, t3, r1, r2, r3, s1, s2, s3, bl, rfl, hW, hRC, hHC, hKC⟩ := hA
  have hwP := hW.P
  have hwA := hW.A
  have hwS := hW.S
  have h14 := hHC.1
  refine (wn_tryLay_A (is := [0, 1, 2]) (c_X5_set__ta (hst := hst) (hB := (α 0)) (b1 := (α 1)) (b2 := (α 2)) (b3 := (α 3)) (b4 := (α 4)) (b5 := (α 5)) (b6 := (α 6)) (b7 := (α 7)) (b8 := (α 8)) (b9 := (α 9)) (b10 := (α 10)) (c1 := (α 12)) (f := f) (σ := σ) (w := x) (v := y) (hR := hRC) (hW := hW) (hx := hx)) rfl rfl rfl).mono ?_
  rintro v9 w9 ⟨u, rfl, rfl, rfl⟩
  exact ⟨rfl, ⟨od, sz, par, fre, pri, sls, drk, pla, tks, par1, fre1, pri1, sls1, drk1, pla1, tks1, sd, st, par3, fre3, pri3, sls3, drk3, pla3, tks3, f, f2, D, K, Z, tx, t1, t2, t3, r1, r2, r3, s1, s2, s3, bl, rfl, hW, hRC, hHC, hKC⟩⟩
set_option maxRecDepth 100000 in
theorem t_undo {l : Launch} {E : Ev} (hst : l.stackTraces = false) {α : Nat → Nat} {σ : Sg} {hs : Nat → Sg} {cnt : Nat} {ks : Nat → Sg} {kd : Nat → Nat} {w : va_W} (hA : Ar E α σ hs cnt ks kd w) (hq : cnt ≠ 0) : CtN l E yL_tryUndo method_23_code 2 (some FieldType.int) (some [(0, 4, 5, 23)]) 7 110 0 [.ref (α 0)] w (fun v9 w9 => v9 = some (.int (nI (cnt - 1))) ∧ Ar E α (hs (cnt - 1)) hs (cnt - 1) ks kd w9) := by
  obtain ⟨od, sz, par, fre, pri, sls, drk, pla, tks, par1, fre1, pri1, sls1, drk1, pla1, tks1, sd, st, par3, fre3, pri3, sls3, drk3, pla3, tks3, f, f2, D, K, Z, tx, t1, t2, t3, r1, r2, r3, s1, s2, s3, bl, rfl, hW, hRC, hHC, hKC⟩ := hA
  have hwP := hW.P
  have hwA := hW.A
  have hwS := hW.S
  have h14 := hHC.1
  refine (wo_tryUndo (is := [0, 1, 2, 5, 6]) (c_X5_undo (hB := (α 0)) (b1 := (α 1)) (b2 := (α 2)) (b3 := (α 3)) (b4 := (α 4)) (b5 := (α 5)) (b6 := (α 6)) (b7 := (α 7)) (b8 := (α 8)) (b9 := (α 9)) (b10 := (α 10)) (c1 := (α 12)) (f := f) (σ := σ) (c3 := (α 14)) (od := od) (cnt := cnt) (D := D) (hs := hs) (hR := hRC) (hW := hW) (hH := hHC) (hc := (by omega))) (fun v u h => by obtain ⟨z0, rfl, rfl, F0, F1⟩ := h; exact ⟨⟨_, rfl⟩, rfl⟩) rfl rfl rfl).mono ?_
  rintro v9 w9 ⟨u, ⟨z0, rfl, rfl, F0, F1⟩, rfl⟩
  exact ⟨rfl, ⟨od, sz, par, fre, pri, sls, drk, pla, tks, par1, fre1, pri1, sls1, drk1, pla1, tks1, sd, st, par3, fre3, pri3, sls3, drk3, pla3, tks3, z0, f2, D, K, Z, tx, t1, t2, t3, r1, r2, r3, s1, s2, s3, bl, rfl, (hHC.2.2 (cnt - 1) (by omega)).1, F0, F1, hKC⟩⟩
set_option maxRecDepth 100000 in
theorem t_undo_no {l : Launch} {E : Ev} (hst : l.stackTraces = false) {α : Nat → Nat} {σ : Sg} {hs : Nat → Sg} {cnt : Nat} {ks : Nat → Sg} {kd : Nat → Nat} {w : va_W} (hA : Ar E α σ hs cnt ks kd w) (hx : cnt = 0) : CtN l E yL_tryUndo method_23_code 2 (some FieldType.int) (some [(0, 4, 5, 23)]) 7 110 1 [.ref (α 0)] w (fun v9 w9 => v9 = some (.int (-9999003)) ∧ Ar E α σ hs cnt ks kd w9) := by
  obtain ⟨od, sz, par, fre, pri, sls, drk, pla, tks, par1, fre1, pri1, sls1, drk1, pla1, tks1, sd, st, par3, fre3, pri3, sls3, drk3, pla3, tks3, f, f2, D, K, Z, tx, t1, t2, t3, r1, r2, r3, s1, s2, s3, bl, rfl, hW, hRC, hHC, hKC⟩ := hA
  have hwP := hW.P
  have hwA := hW.A
  have hwS := hW.S
  have h14 := hHC.1
  refine (wn_tryUndo_S (is := [0, 5]) (c_X5_undo__t (hst := hst) (hB := (α 0)) (b1 := (α 1)) (b2 := (α 2)) (b3 := (α 3)) (b4 := (α 4)) (b5 := (α 5)) (b6 := (α 6)) (b7 := (α 7)) (b8 := (α 8)) (b9 := (α 9)) (b10 := (α 10)) (c3 := (α 14)) (od := od) (cnt := cnt) (hx := (by omega))) rfl rfl rfl).mono ?_
  rintro v9 w9 ⟨u, rfl, rfl, rfl⟩
  exact ⟨rfl, ⟨od, sz, par, fre, pri, sls, drk, pla, tks, par1, fre1, pri1, sls1, drk1, pla1, tks1, sd, st, par3, fre3, pri3, sls3, drk3, pla3, tks3, f, f2, D, K, Z, tx, t1, t2, t3, r1, r2, r3, s1, s2, s3, bl, rfl, hW, hRC, hHC, hKC⟩⟩
set_option maxRecDepth 100000 in
theorem t_find {l : Launch} {E : Ev} (hst : l.stackTraces = false) {α : Nat → Nat} {σ : Sg} {hs : Nat → Sg} {cnt : Nat} {ks : Nat → Sg} {kd : Nat → Nat} {w : va_W} (hA : Ar E α σ hs cnt ks kd w) {p a k : Nat}(hp : p < sP σ)(ha : a < sA σ)(hk : k < 2147483648) : CtN l E yL_tryFind method_24_code 5 (some FieldType.int) (some [(0, 7, 8, 13), (0, 7, 13, 20)]) 8 145 0 [.ref (α 0), .int (nI p), .int (nI a), .int (nI k)] w (fun v9 w9 => v9 = some (.int (mI (fnd σ p a k))) ∧ Ar E α σ hs cnt ks kd w9) := by
  obtain ⟨od, sz, par, fre, pri, sls, drk, pla, tks, par1, fre1, pri1, sls1, drk1, pla1, tks1, sd, st, par3, fre3, pri3, sls3, drk3, pla3, tks3, f, f2, D, K, Z, tx, t1, t2, t3, r1, r2, r3, s1, s2, s3, bl, rfl, hW, hRC, hHC, hKC⟩ := hA
  have hwP := hW.P
  have hwA := hW.A
  have hwS := hW.S
  have h14 := hHC.1
  refine (wo_tryFind (is := [0, 1, 2, 11, 12, 13, 14]) (c_X5_find (hB := (α 0)) (b1 := (α 1)) (b2 := (α 2)) (b3 := (α 3)) (b4 := (α 4)) (b5 := (α 5)) (b6 := (α 6)) (b7 := (α 7)) (b8 := (α 8)) (b9 := (α 9)) (b10 := (α 10)) (c1 := (α 12)) (f := f) (σ := σ) (e1 := (α 16)) (e2 := (α 17)) (e3 := (α 18)) (par := par) (fre := fre) (pri := pri) (sls := sls) (drk := drk) (pla := pla) (tks := tks) (t1 := t1) (t2 := t2) (t3 := t3) (p := p) (a := a) (k := k) (hR := hRC) (hW := hW) (hp := (by omega)) (ha := (by omega)) (hk := (by omega))) (fun v u h => by obtain ⟨z0, z1, z2, z3, z4, z5, z6, z7, z8, z9, rfl, rfl⟩ := h; exact ⟨⟨_, rfl⟩, rfl⟩) rfl rfl rfl).mono ?_
  rintro v9 w9 ⟨u, ⟨z0, z1, z2, z3, z4, z5, z6, z7, z8, z9, rfl, rfl⟩, rfl⟩
  exact ⟨rfl, ⟨od, sz, z0, z1, z2, z3, z4, z5, z6, par1, fre1, pri1, sls1, drk1, pla1, tks1, sd, st, par3, fre3, pri3, sls3, drk3, pla3, tks3, f, f2, D, K, Z, tx, z7, z8, z9, r1, r2, r3, s1, s2, s3, bl, rfl, hW, hRC, hHC, hKC⟩⟩
set_option maxRecDepth 100000 in
theorem t_find_nb {l : Launch} {E : Ev} (hst : l.stackTraces = false) {α : Nat → Nat} {σ : Sg} {hs : Nat → Sg} {cnt : Nat} {ks : Nat → Sg} {kd : Nat → Nat} {w : va_W} (hA : Ar E α σ hs cnt ks kd w) {p : Nat}{x y : Int32}(hp : p < sP σ)(hx : ¬ vI x (sA σ)) : CtN l E yL_tryFind method_24_code 5 (some FieldType.int) (some [(0, 7, 8, 13), (0, 7, 13, 20)]) 8 145 1 [.ref (α 0), .int (nI p), .int x, .int y] w (fun v9 w9 => v9 = some (.int (-9999001)) ∧ Ar E α σ hs cnt ks kd w9) := by
  obtain ⟨od, sz, par, fre, pri, sls, drk, pla, tks, par1, fre1, pri1, sls1, drk1, pla1, tks1, sd, st, par3, fre3, pri3, sls3, drk3, pla3, tks3, f, f2, D, K, Z, tx, t1, t2, t3, r1, r2, r3, s1, s2, s3, bl, rfl, hW, hRC, hHC, hKC⟩ := hA
  have hwP := hW.P
  have hwA := hW.A
  have hwS := hW.S
  have h14 := hHC.1
  refine (wn_tryFind_B (is := [0, 1, 2]) (c_X5_find__tb (hst := hst) (hB := (α 0)) (b1 := (α 1)) (b2 := (α 2)) (b3 := (α 3)) (b4 := (α 4)) (b5 := (α 5)) (b6 := (α 6)) (b7 := (α 7)) (b8 := (α 8)) (b9 := (α 9)) (b10 := (α 10)) (c1 := (α 12)) (f := f) (σ := σ) (p := p) (a := x) (k := y) (hR := hRC) (hW := hW) (h1 := (by omega)) (hx := hx)) rfl rfl rfl).mono ?_
  rintro v9 w9 ⟨u, rfl, rfl, rfl⟩
  exact ⟨rfl, ⟨od, sz, par, fre, pri, sls, drk, pla, tks, par1, fre1, pri1, sls1, drk1, pla1, tks1, sd, st, par3, fre3, pri3, sls3, drk3, pla3, tks3, f, f2, D, K, Z, tx, t1, t2, t3, r1, r2, r3, s1, s2, s3, bl, rfl, hW, hRC, hHC, hKC⟩⟩
set_option maxRecDepth 100000 in
theorem t_find_nc {l : Launch} {E : Ev} (hst : l.stackTraces = false) {α : Nat → Nat} {σ : Sg} {hs : Nat → Sg} {cnt : Nat} {ks : Nat → Sg} {kd : Nat → Nat} {w : va_W} (hA : Ar E α σ hs cnt ks kd w) {p a : Nat}{x : Int32}(hp : p < sP σ)(ha : a < sA σ)(hx : x < 0) : CtN l E yL_tryFind method_24_code 5 (some FieldType.int) (some [(0, 7, 8, 13), (0, 7, 13, 20)]) 8 145 1 [.ref (α 0), .int (nI p), .int (nI a), .int x] w (fun v9 w9 => v9 = some (.int (-9999002)) ∧ Ar E α σ hs cnt ks kd w9) := by
  obtain ⟨od, sz, par, fre, pri, sls, drk, pla, tks, par1, fre1, pri1, sls1, drk1, pla1, tks1, sd, st, par3, fre3, pri3, sls3, drk3, pla3, tks3, f, f2, D, K, Z, tx, t1, t2, t3, r1, r2, r3, s1, s2, s3, bl, rfl, hW, hRC, hHC, hKC⟩ := hA
  have hwP := hW.P
  have hwA := hW.A
  have hwS := hW.S
  have h14 := hHC.1
  refine (wn_tryFind_A (is := [0, 1, 2]) (c_X5_find__tc (hst := hst) (hB := (α 0)) (b1 := (α 1)) (b2 := (α 2)) (b3 := (α 3)) (b4 := (α 4)) (b5 := (α 5)) (b6 := (α 6)) (b7 := (α 7)) (b8 := (α 8)) (b9 := (α 9)) (b10 := (α 10)) (c1 := (α 12)) (f := f) (σ := σ) (p := p) (a := a) (k := x) (hR := hRC) (hW := hW) (hp := (by omega)) (ha := (by omega)) (hx := hx)) rfl rfl rfl).mono ?_
  rintro v9 w9 ⟨u, rfl, rfl, rfl⟩
  exact ⟨rfl, ⟨od, sz, par, fre, pri, sls, drk, pla, tks, par1, fre1, pri1, sls1, drk1, pla1, tks1, sd, st, par3, fre3, pri3, sls3, drk3, pla3, tks3, f, f2, D, K, Z, tx, t1, t2, t3, r1, r2, r3, s1, s2, s3, bl, rfl, hW, hRC, hHC, hKC⟩⟩
set_option maxRecDepth 100000 in
theorem t_together {l : Launch} {E : Ev} (hst : l.stackTraces = false) {α : Nat → Nat} {σ : Sg} {hs : Nat → Sg} {cnt : Nat} {ks : Nat → Sg} {kd : Nat → Nat} {w : va_W} (hA : Ar E α σ hs cnt ks kd w) {a c : Nat}(ha : a < sA σ)(hc : c < sA σ) : CtN l E yL_tryTogether method_25_code 4 (some FieldType.int) (some [(0, 6, 7, 13)]) 8 140 0 [.ref (α 0), .int (nI a), .int (nI c)] w (fun v9 w9 => v9 = some (.int (nI (tgN σ a c 20))) ∧ Ar E α σ hs cnt ks kd w9) := by
  obtain ⟨od, sz, par, fre, pri, sls, drk, pla, tks, par1, fre1, pri1, sls1, drk1, pla1, tks1, sd, st, par3, fre3, pri3, sls3, drk3, pla3, tks3, f, f2, D, K, Z, tx, t1, t2, t3, r1, r2, r3, s1, s2, s3, bl, rfl, hW, hRC, hHC, hKC⟩ := hA
  have hwP := hW.P
  have hwA := hW.A
  have hwS := hW.S
  have h14 := hHC.1
  refine (wo_tryTogether (is := [0, 1, 2, 11, 12, 13, 14]) (c_X5_together (hB := (α 0)) (b1 := (α 1)) (b2 := (α 2)) (b3 := (α 3)) (b4 := (α 4)) (b5 := (α 5)) (b6 := (α 6)) (b7 := (α 7)) (b8 := (α 8)) (b9 := (α 9)) (b10 := (α 10)) (c1 := (α 12)) (f := f) (σ := σ) (e1 := (α 16)) (e2 := (α 17)) (e3 := (α 18)) (par := par) (fre := fre) (pri := pri) (sls := sls) (drk := drk) (pla := pla) (tks := tks) (t1 := t1) (t2 := t2) (t3 := t3) (a := a) (c := c) (hR := hRC) (hW := hW) (ha := (by omega)) (hc := (by omega))) (fun v u h => by obtain ⟨z0, z1, z2, z3, z4, z5, z6, z7, z8, z9, rfl, rfl⟩ := h; exact ⟨⟨_, rfl⟩, rfl⟩) rfl rfl rfl).mono ?_
  rintro v9 w9 ⟨u, ⟨z0, z1, z2, z3, z4, z5, z6, z7, z8, z9, rfl, rfl⟩, rfl⟩
  exact ⟨rfl, ⟨od, sz, z0, z1, z2, z3, z4, z5, z6, par1, fre1, pri1, sls1, drk1, pla1, tks1, sd, st, par3, fre3, pri3, sls3, drk3, pla3, tks3, f, f2, D, K, Z, tx, z7, z8, z9, r1, r2, r3, s1, s2, s3, bl, rfl, hW, hRC, hHC, hKC⟩⟩
set_option maxRecDepth 100000 in
theorem t_together_nb {l : Launch} {E : Ev} (hst : l.stackTraces = false) {α : Nat → Nat} {σ : Sg} {hs : Nat → Sg} {cnt : Nat} {ks : Nat → Sg} {kd : Nat → Nat} {w : va_W} (hA : Ar E α σ hs cnt ks kd w) {a : Nat}{x : Int32}(ha : a < sA σ)(hx : ¬ vI x (sA σ)) : CtN l E yL_tryTogether method_25_code 4 (some FieldType.int) (some [(0, 6, 7, 13)]) 8 140 1 [.ref (α 0), .int (nI a), .int x] w (fun v9 w9 => v9 = some (.int (-9999001)) ∧ Ar E α σ hs cnt ks kd w9) := by
  obtain ⟨od, sz, par, fre, pri, sls, drk, pla, tks, par1, fre1, pri1, sls1, drk1, pla1, tks1, sd, st, par3, fre3, pri3, sls3, drk3, pla3, tks3, f, f2, D, K, Z, tx, t1, t2, t3, r1, r2, r3, s1, s2, s3, bl, rfl, hW, hRC, hHC, hKC⟩ := hA
  have hwP := hW.P
  have hwA := hW.A
  have hwS := hW.S
  have h14 := hHC.1
  refine (wn_tryTogether_B (is := [0, 1, 2]) (c_X5_together__tb (hst := hst) (hB := (α 0)) (b1 := (α 1)) (b2 := (α 2)) (b3 := (α 3)) (b4 := (α 4)) (b5 := (α 5)) (b6 := (α 6)) (b7 := (α 7)) (b8 := (α 8)) (b9 := (α 9)) (b10 := (α 10)) (c1 := (α 12)) (f := f) (σ := σ) (a := a) (b := x) (hR := hRC) (hW := hW) (h1 := (by omega)) (hx := hx)) rfl rfl rfl).mono ?_
  rintro v9 w9 ⟨u, rfl, rfl, rfl⟩
  exact ⟨rfl, ⟨od, sz, par, fre, pri, sls, drk, pla, tks, par1, fre1, pri1, sls1, drk1, pla1, tks1, sd, st, par3, fre3, pri3, sls3, drk3, pla3, tks3, f, f2, D, K, Z, tx, t1, t2, t3, r1, r2, r3, s1, s2, s3, bl, rfl, hW, hRC, hHC, hKC⟩⟩
set_option maxRecDepth 100000 in
theorem t_longest {l : Launch} {E : Ev} (hst : l.stackTraces = false) {α : Nat → Nat} {σ : Sg} {hs : Nat → Sg} {cnt : Nat} {ks : Nat → Sg} {kd : Nat → Nat} {w : va_W} (hA : Ar E α σ hs cnt ks kd w) {p a : Nat}(hp : p < sP σ)(ha : a < sA σ) : CtN l E yL_tryLongest method_26_code 4 (some FieldType.int) (some [(0, 6, 7, 13)]) 8 145 0 [.ref (α 0), .int (nI p), .int (nI a)] w (fun v9 w9 => v9 = some (.int (nI (lgB σ p a 20))) ∧ Ar E α σ hs cnt ks kd w9) := by
  obtain ⟨od, sz, par, fre, pri, sls, drk, pla, tks, par1, fre1, pri1, sls1, drk1, pla1, tks1, sd, st, par3, fre3, pri3, sls3, drk3, pla3, tks3, f, f2, D, K, Z, tx, t1, t2, t3, r1, r2, r3, s1, s2, s3, bl, rfl, hW, hRC, hHC, hKC⟩ := hA
  have hwP := hW.P
  have hwA := hW.A
  have hwS := hW.S
  have h14 := hHC.1
  refine (wo_tryLongest (is := [0, 1, 2, 11, 12, 13, 14]) (c_X5_longest (hB := (α 0)) (b1 := (α 1)) (b2 := (α 2)) (b3 := (α 3)) (b4 := (α 4)) (b5 := (α 5)) (b6 := (α 6)) (b7 := (α 7)) (b8 := (α 8)) (b9 := (α 9)) (b10 := (α 10)) (c1 := (α 12)) (f := f) (σ := σ) (e1 := (α 16)) (e2 := (α 17)) (e3 := (α 18)) (par := par) (fre := fre) (pri := pri) (sls := sls) (drk := drk) (pla := pla) (tks := tks) (t1 := t1) (t2 := t2) (t3 := t3) (p := p) (a := a) (hR := hRC) (hW := hW) (hp := (by omega)) (ha := (by omega))) (fun v u h => by obtain ⟨z0, z1, z2, z3, z4, z5, z6, z7, z8, z9, rfl, rfl⟩ := h; exact ⟨⟨_, rfl⟩, rfl⟩) rfl rfl rfl).mono ?_
  rintro v9 w9 ⟨u, ⟨z0, z1, z2, z3, z4, z5, z6, z7, z8, z9, rfl, rfl⟩, rfl⟩
  exact ⟨rfl, ⟨od, sz, z0, z1, z2, z3, z4, z5, z6, par1, fre1, pri1, sls1, drk1, pla1, tks1, sd, st, par3, fre3, pri3, sls3, drk3, pla3, tks3, f, f2, D, K, Z, tx, z7, z8, z9, r1, r2, r3, s1, s2, s3, bl, rfl, hW, hRC, hHC, hKC⟩⟩
set_option maxRecDepth 100000 in
theorem t_longest_na {l : Launch} {E : Ev} (hst : l.stackTraces = false) {α : Nat → Nat} {σ : Sg} {hs : Nat → Sg} {cnt : Nat} {ks : Nat → Sg} {kd : Nat → Nat} {w : va_W} (hA : Ar E α σ hs cnt ks kd w) {x y : Int32}(hx : ¬ vI x (sP σ)) : CtN l E yL_tryLongest method_26_code 4 (some FieldType.int) (some [(0, 6, 7, 13)]) 8 145 1 [.ref (α 0), .int x, .int y] w (fun v9 w9 => v9 = some (.int (-9999001)) ∧ Ar E α σ hs cnt ks kd w9) := by
  obtain ⟨od, sz, par, fre, pri, sls, drk, pla, tks, par1, fre1, pri1, sls1, drk1, pla1, tks1, sd, st, par3, fre3, pri3, sls3, drk3, pla3, tks3, f, f2, D, K, Z, tx, t1, t2, t3, r1, r2, r3, s1, s2, s3, bl, rfl, hW, hRC, hHC, hKC⟩ := hA
  have hwP := hW.P
  have hwA := hW.A
  have hwS := hW.S
  have h14 := hHC.1
  refine (wn_tryLongest_B (is := [0, 1, 2]) (c_X5_longest__ta (hst := hst) (hB := (α 0)) (b1 := (α 1)) (b2 := (α 2)) (b3 := (α 3)) (b4 := (α 4)) (b5 := (α 5)) (b6 := (α 6)) (b7 := (α 7)) (b8 := (α 8)) (b9 := (α 9)) (b10 := (α 10)) (c1 := (α 12)) (f := f) (σ := σ) (p := x) (a := y) (hR := hRC) (hW := hW) (hx := hx)) rfl rfl rfl).mono ?_
  rintro v9 w9 ⟨u, rfl, rfl, rfl⟩
  exact ⟨rfl, ⟨od, sz, par, fre, pri, sls, drk, pla, tks, par1, fre1, pri1, sls1, drk1, pla1, tks1, sd, st, par3, fre3, pri3, sls3, drk3, pla3, tks3, f, f2, D, K, Z, tx, t1, t2, t3, r1, r2, r3, s1, s2, s3, bl, rfl, hW, hRC, hHC, hKC⟩⟩
set_option maxRecDepth 100000 in
theorem t_would_0 {l : Launch} {E : Ev} (hst : l.stackTraces = false) {α : Nat → Nat} {σ : Sg} {hs : Nat → Sg} {cnt : Nat} {ks : Nat → Sg} {kd : Nat → Nat} {w : va_W} (hA : Ar E α σ hs cnt ks kd w) {a n : Nat}(ha : a < sA σ)(hn : n < 20) : CtN l E yL_tryWould method_27_code 5 (some FieldType.int) (some [(0, 7, 8, 13), (0, 7, 13, 20)]) 8 134 0 [.ref (α 0), .int (nI a), .int (nI n), .int (nI 0)] w (fun v9 w9 => v9 = some (.int (nI (chg σ (oFl σ a n) n))) ∧ Ar E α σ hs cnt ks kd w9) := by
  obtain ⟨od, sz, par, fre, pri, sls, drk, pla, tks, par1, fre1, pri1, sls1, drk1, pla1, tks1, sd, st, par3, fre3, pri3, sls3, drk3, pla3, tks3, f, f2, D, K, Z, tx, t1, t2, t3, r1, r2, r3, s1, s2, s3, bl, rfl, hW, hRC, hHC, hKC⟩ := hA
  have hwP := hW.P
  have hwA := hW.A
  have hwS := hW.S
  have h14 := hHC.1
  refine (wo_tryWould (is := [0, 1, 2, 3, 4, 11, 12, 13, 14, 15, 16, 17, 18]) (c_X5_ifIll__0 (hB := (α 0)) (b1 := (α 1)) (b2 := (α 2)) (b3 := (α 3)) (b4 := (α 4)) (b5 := (α 5)) (b6 := (α 6)) (b7 := (α 7)) (b8 := (α 8)) (b9 := (α 9)) (b10 := (α 10)) (c1 := (α 12)) (f := f) (σ := σ) (c2 := (α 13)) (f2 := f2) (e1 := (α 16)) (e2 := (α 17)) (e3 := (α 18)) (par := par) (fre := fre) (pri := pri) (sls := sls) (drk := drk) (pla := pla) (tks := tks) (t1 := t1) (t2 := t2) (t3 := t3) (g1 := (α 19)) (g2 := (α 20)) (g3 := (α 21)) (par1 := par1) (fre1 := fre1) (pri1 := pri1) (sls1 := sls1) (drk1 := drk1) (pla1 := pla1) (tks1 := tks1) (r1 := r1) (r2 := r2) (r3 := r3) (a := a) (n := n) (hR := hRC) (hW := hW) (ha := (by omega)) (hn := (by omega))) (fun v u h => by obtain ⟨z0, z1, z2, z3, z4, z5, z6, z7, z8, z9, z10, z11, z12, z13, z14, z15, z16, z17, z18, z19, z20, rfl, rfl⟩ := h; exact ⟨⟨_, rfl⟩, rfl⟩) rfl rfl rfl).mono ?_
  rintro v9 w9 ⟨u, ⟨z0, z1, z2, z3, z4, z5, z6, z7, z8, z9, z10, z11, z12, z13, z14, z15, z16, z17, z18, z19, z20, rfl, rfl⟩, rfl⟩
  exact ⟨rfl, ⟨od, sz, z1, z2, z3, z4, z5, z6, z7, z8, z9, z10, z11, z12, z13, z14, sd, st, par3, fre3, pri3, sls3, drk3, pla3, tks3, f, z0, D, K, Z, tx, z15, z16, z17, z18, z19, z20, s1, s2, s3, bl, rfl, hW, hRC, hHC, hKC⟩⟩
set_option maxRecDepth 100000 in
theorem t_would_1 {l : Launch} {E : Ev} (hst : l.stackTraces = false) {α : Nat → Nat} {σ : Sg} {hs : Nat → Sg} {cnt : Nat} {ks : Nat → Sg} {kd : Nat → Nat} {w : va_W} (hA : Ar E α σ hs cnt ks kd w) {a n : Nat}(ha : a < sA σ)(hn : n < 20) : CtN l E yL_tryWould method_27_code 5 (some FieldType.int) (some [(0, 7, 8, 13), (0, 7, 13, 20)]) 8 134 0 [.ref (α 0), .int (nI a), .int (nI n), .int (nI 1)] w (fun v9 w9 => v9 = some (.int (nI (tak (oFl σ a n) n) - nI (tak σ n))) ∧ Ar E α σ hs cnt ks kd w9) := by
  obtain ⟨od, sz, par, fre, pri, sls, drk, pla, tks, par1, fre1, pri1, sls1, drk1, pla1, tks1, sd, st, par3, fre3, pri3, sls3, drk3, pla3, tks3, f, f2, D, K, Z, tx, t1, t2, t3, r1, r2, r3, s1, s2, s3, bl, rfl, hW, hRC, hHC, hKC⟩ := hA
  have hwP := hW.P
  have hwA := hW.A
  have hwS := hW.S
  have h14 := hHC.1
  refine (wo_tryWould (is := [0, 1, 2, 3, 4, 11, 12, 13, 14, 15, 16, 17, 18]) (c_X5_ifIll__1 (hB := (α 0)) (b1 := (α 1)) (b2 := (α 2)) (b3 := (α 3)) (b4 := (α 4)) (b5 := (α 5)) (b6 := (α 6)) (b7 := (α 7)) (b8 := (α 8)) (b9 := (α 9)) (b10 := (α 10)) (c1 := (α 12)) (f := f) (σ := σ) (c2 := (α 13)) (f2 := f2) (e1 := (α 16)) (e2 := (α 17)) (e3 := (α 18)) (par := par) (fre := fre) (pri := pri) (sls := sls) (drk := drk) (pla := pla) (tks := tks) (t1 := t1) (t2 := t2) (t3 := t3) (g1 := (α 19)) (g2 := (α 20)) (g3 := (α 21)) (par1 := par1) (fre1 := fre1) (pri1 := pri1) (sls1 := sls1) (drk1 := drk1) (pla1 := pla1) (tks1 := tks1) (r1 := r1) (r2 := r2) (r3 := r3) (a := a) (n := n) (hR := hRC) (hW := hW) (ha := (by omega)) (hn := (by omega))) (fun v u h => by obtain ⟨z0, z1, z2, z3, z4, z5, z6, z7, z8, z9, z10, z11, z12, z13, z14, z15, z16, z17, z18, z19, z20, rfl, rfl⟩ := h; exact ⟨⟨_, rfl⟩, rfl⟩) rfl rfl rfl).mono ?_
  rintro v9 w9 ⟨u, ⟨z0, z1, z2, z3, z4, z5, z6, z7, z8, z9, z10, z11, z12, z13, z14, z15, z16, z17, z18, z19, z20, rfl, rfl⟩, rfl⟩
  exact ⟨rfl, ⟨od, sz, z1, z2, z3, z4, z5, z6, z7, z8, z9, z10, z11, z12, z13, z14, sd, st, par3, fre3, pri3, sls3, drk3, pla3, tks3, f, z0, D, K, Z, tx, z15, z16, z17, z18, z19, z20, s1, s2, s3, bl, rfl, hW, hRC, hHC, hKC⟩⟩
set_option maxRecDepth 100000 in
theorem t_would_nb {l : Launch} {E : Ev} (hst : l.stackTraces = false) {α : Nat → Nat} {σ : Sg} {hs : Nat → Sg} {cnt : Nat} {ks : Nat → Sg} {kd : Nat → Nat} {w : va_W} (hA : Ar E α σ hs cnt ks kd w) {a : Nat}{x y : Int32}(ha : a < sA σ)(hx : ¬ vI x 20) : CtN l E yL_tryWould method_27_code 5 (some FieldType.int) (some [(0, 7, 8, 13), (0, 7, 13, 20)]) 8 134 1 [.ref (α 0), .int (nI a), .int x, .int y] w (fun v9 w9 => v9 = some (.int (-9999001)) ∧ Ar E α σ hs cnt ks kd w9) := by
  obtain ⟨od, sz, par, fre, pri, sls, drk, pla, tks, par1, fre1, pri1, sls1, drk1, pla1, tks1, sd, st, par3, fre3, pri3, sls3, drk3, pla3, tks3, f, f2, D, K, Z, tx, t1, t2, t3, r1, r2, r3, s1, s2, s3, bl, rfl, hW, hRC, hHC, hKC⟩ := hA
  have hwP := hW.P
  have hwA := hW.A
  have hwS := hW.S
  have h14 := hHC.1
  refine (wn_tryWould_B (is := [0, 1, 2]) (c_X5_ifIll__tb (hst := hst) (hB := (α 0)) (b1 := (α 1)) (b2 := (α 2)) (b3 := (α 3)) (b4 := (α 4)) (b5 := (α 5)) (b6 := (α 6)) (b7 := (α 7)) (b8 := (α 8)) (b9 := (α 9)) (b10 := (α 10)) (c1 := (α 12)) (f := f) (σ := σ) (a := a) (n := x) (w := y) (hR := hRC) (hW := hW) (h1 := (by omega)) (hx := hx)) rfl rfl rfl).mono ?_
  rintro v9 w9 ⟨u, rfl, rfl, rfl⟩
  exact ⟨rfl, ⟨od, sz, par, fre, pri, sls, drk, pla, tks, par1, fre1, pri1, sls1, drk1, pla1, tks1, sd, st, par3, fre3, pri3, sls3, drk3, pla3, tks3, f, f2, D, K, Z, tx, t1, t2, t3, r1, r2, r3, s1, s2, s3, bl, rfl, hW, hRC, hHC, hKC⟩⟩
set_option maxRecDepth 100000 in
theorem t_would_nc {l : Launch} {E : Ev} (hst : l.stackTraces = false) {α : Nat → Nat} {σ : Sg} {hs : Nat → Sg} {cnt : Nat} {ks : Nat → Sg} {kd : Nat → Nat} {w : va_W} (hA : Ar E α σ hs cnt ks kd w) {a n : Nat}{x : Int32}(ha : a < sA σ)(hn : n < 20)(hx : ¬ vI x 2) : CtN l E yL_tryWould method_27_code 5 (some FieldType.int) (some [(0, 7, 8, 13), (0, 7, 13, 20)]) 8 134 1 [.ref (α 0), .int (nI a), .int (nI n), .int x] w (fun v9 w9 => v9 = some (.int (-9999002)) ∧ Ar E α σ hs cnt ks kd w9) := by
  obtain ⟨od, sz, par, fre, pri, sls, drk, pla, tks, par1, fre1, pri1, sls1, drk1, pla1, tks1, sd, st, par3, fre3, pri3, sls3, drk3, pla3, tks3, f, f2, D, K, Z, tx, t1, t2, t3, r1, r2, r3, s1, s2, s3, bl, rfl, hW, hRC, hHC, hKC⟩ := hA
  have hwP := hW.P
  have hwA := hW.A
  have hwS := hW.S
  have h14 := hHC.1
  refine (wn_tryWould_A (is := [0, 1, 2]) (c_X5_ifIll__tc (hst := hst) (hB := (α 0)) (b1 := (α 1)) (b2 := (α 2)) (b3 := (α 3)) (b4 := (α 4)) (b5 := (α 5)) (b6 := (α 6)) (b7 := (α 7)) (b8 := (α 8)) (b9 := (α 9)) (b10 := (α 10)) (c1 := (α 12)) (f := f) (σ := σ) (a := a) (n := n) (w := x) (hR := hRC) (hW := hW) (ha := (by omega)) (hn := (by omega)) (hx := hx)) rfl rfl rfl).mono ?_
  rintro v9 w9 ⟨u, rfl, rfl, rfl⟩
  exact ⟨rfl, ⟨od, sz, par, fre, pri, sls, drk, pla, tks, par1, fre1, pri1, sls1, drk1, pla1, tks1, sd, st, par3, fre3, pri3, sls3, drk3, pla3, tks3, f, f2, D, K, Z, tx, t1, t2, t3, r1, r2, r3, s1, s2, s3, bl, rfl, hW, hRC, hHC, hKC⟩⟩
set_option maxRecDepth 100000 in
theorem t_best {l : Launch} {E : Ev} (hst : l.stackTraces = false) {α : Nat → Nat} {σ : Sg} {hs : Nat → Sg} {cnt : Nat} {ks : Nat → Sg} {kd : Nat → Nat} {w : va_W} (hA : Ar E α σ hs cnt ks kd w) {p : Nat}(hp : p < sP σ) : CtN l E yL_tryBest method_28_code 3 (some FieldType.int) (some [(0, 5, 6, 13)]) 8 142 0 [.ref (α 0), .int (nI p)] w (fun v9 w9 => v9 = some (.int (mI ((bu σ p (sA σ)).1))) ∧ Ar E α σ hs cnt ks kd w9) := by
  obtain ⟨od, sz, par, fre, pri, sls, drk, pla, tks, par1, fre1, pri1, sls1, drk1, pla1, tks1, sd, st, par3, fre3, pri3, sls3, drk3, pla3, tks3, f, f2, D, K, Z, tx, t1, t2, t3, r1, r2, r3, s1, s2, s3, bl, rfl, hW, hRC, hHC, hKC⟩ := hA
  have hwP := hW.P
  have hwA := hW.A
  have hwS := hW.S
  have h14 := hHC.1
  refine (wo_tryBest (is := [0, 1, 2, 3, 4, 19, 20, 21, 22, 23]) (c_X5_bestUnderstudy (hB := (α 0)) (b1 := (α 1)) (b2 := (α 2)) (b3 := (α 3)) (b4 := (α 4)) (b5 := (α 5)) (b6 := (α 6)) (b7 := (α 7)) (b8 := (α 8)) (b9 := (α 9)) (b10 := (α 10)) (c1 := (α 12)) (f := f) (σ := σ) (c2 := (α 13)) (f2 := f2) (b11 := (α 11)) (sd := sd) (st := st) (e1 := (α 22)) (e2 := (α 23)) (e3 := (α 24)) (par := par3) (fre := fre3) (pri := pri3) (sls := sls3) (drk := drk3) (pla := pla3) (tks := tks3) (t1 := s1) (t2 := s2) (t3 := s3) (p := p) (hR := hRC) (hW := hW) (hp := (by omega))) (fun v u h => by obtain ⟨z0, z1, z2, z3, z4, z5, z6, z7, z8, z9, z10, z11, z12, rfl, rfl⟩ := h; exact ⟨⟨_, rfl⟩, rfl⟩) rfl rfl rfl).mono ?_
  rintro v9 w9 ⟨u, ⟨z0, z1, z2, z3, z4, z5, z6, z7, z8, z9, z10, z11, z12, rfl, rfl⟩, rfl⟩
  exact ⟨rfl, ⟨od, sz, par, fre, pri, sls, drk, pla, tks, par1, fre1, pri1, sls1, drk1, pla1, tks1, z0, z1, z2, z3, z4, z5, z6, z7, z8, f, z12, D, K, Z, tx, t1, t2, t3, r1, r2, r3, z9, z10, z11, bl, rfl, hW, hRC, hHC, hKC⟩⟩
set_option maxRecDepth 100000 in
theorem t_best_no {l : Launch} {E : Ev} (hst : l.stackTraces = false) {α : Nat → Nat} {σ : Sg} {hs : Nat → Sg} {cnt : Nat} {ks : Nat → Sg} {kd : Nat → Nat} {w : va_W} (hA : Ar E α σ hs cnt ks kd w) {x : Int32}(hx : ¬ vI x (sP σ)) : CtN l E yL_tryBest method_28_code 3 (some FieldType.int) (some [(0, 5, 6, 13)]) 8 142 1 [.ref (α 0), .int x] w (fun v9 w9 => v9 = some (.int (-9999001)) ∧ Ar E α σ hs cnt ks kd w9) := by
  obtain ⟨od, sz, par, fre, pri, sls, drk, pla, tks, par1, fre1, pri1, sls1, drk1, pla1, tks1, sd, st, par3, fre3, pri3, sls3, drk3, pla3, tks3, f, f2, D, K, Z, tx, t1, t2, t3, r1, r2, r3, s1, s2, s3, bl, rfl, hW, hRC, hHC, hKC⟩ := hA
  have hwP := hW.P
  have hwA := hW.A
  have hwS := hW.S
  have h14 := hHC.1
  refine (wn_tryBest_B (is := [0, 1, 2]) (c_X5_bestUnderstudy__t (hst := hst) (hB := (α 0)) (b1 := (α 1)) (b2 := (α 2)) (b3 := (α 3)) (b4 := (α 4)) (b5 := (α 5)) (b6 := (α 6)) (b7 := (α 7)) (b8 := (α 8)) (b9 := (α 9)) (b10 := (α 10)) (c1 := (α 12)) (f := f) (σ := σ) (p := x) (hR := hRC) (hW := hW) (hx := hx)) rfl rfl rfl).mono ?_
  rintro v9 w9 ⟨u, rfl, rfl, rfl⟩
  exact ⟨rfl, ⟨od, sz, par, fre, pri, sls, drk, pla, tks, par1, fre1, pri1, sls1, drk1, pla1, tks1, sd, st, par3, fre3, pri3, sls3, drk3, pla3, tks3, f, f2, D, K, Z, tx, t1, t2, t3, r1, r2, r3, s1, s2, s3, bl, rfl, hW, hRC, hHC, hKC⟩⟩
set_option maxRecDepth 100000 in
theorem t_keep {l : Launch} {E : Ev} (hst : l.stackTraces = false) {α : Nat → Nat} {σ : Sg} {hs : Nat → Sg} {cnt : Nat} {ks : Nat → Sg} {kd : Nat → Nat} {w : va_W} (hA : Ar E α σ hs cnt ks kd w) {k : Nat}(hk : k < 2) : CtN l E yL_tryKeep method_29_code 3 (some FieldType.int) (some [(0, 5, 6, 13)]) 8 131 0 [.ref (α 0), .int (nI k)] w (fun v9 w9 => v9 = some (.int (nI (sS σ))) ∧ Ar E α σ hs cnt (fun i => if i = k then σ else ks i) (fun i => if i = k then 1 else kd i) w9) := by
  obtain ⟨od, sz, par, fre, pri, sls, drk, pla, tks, par1, fre1, pri1, sls1, drk1, pla1, tks1, sd, st, par3, fre3, pri3, sls3, drk3, pla3, tks3, f, f2, D, K, Z, tx, t1, t2, t3, r1, r2, r3, s1, s2, s3, bl, rfl, hW, hRC, hHC, hKC⟩ := hA
  have hwP := hW.P
  have hwA := hW.A
  have hwS := hW.S
  have h14 := hHC.1
  refine (wo_tryKeep (is := [0, 1, 2, 7, 8]) (c_X5_save (hB := (α 0)) (b1 := (α 1)) (b2 := (α 2)) (b3 := (α 3)) (b4 := (α 4)) (b5 := (α 5)) (b6 := (α 6)) (b7 := (α 7)) (b8 := (α 8)) (b9 := (α 9)) (b10 := (α 10)) (c1 := (α 12)) (f := f) (σ := σ) (ks := ks) (kd := kd) (K := K) (Z := Z) (s := k) (hR := hRC) (hW := hW) (hK := hKC) (hs := (by omega))) (fun v u h => by obtain ⟨z0, z1, rfl, rfl, F0⟩ := h; exact ⟨⟨_, rfl⟩, rfl⟩) rfl rfl rfl).mono ?_
  rintro v9 w9 ⟨u, ⟨z0, z1, rfl, rfl, F0⟩, rfl⟩
  exact ⟨rfl, ⟨od, sz, par, fre, pri, sls, drk, pla, tks, par1, fre1, pri1, sls1, drk1, pla1, tks1, sd, st, par3, fre3, pri3, sls3, drk3, pla3, tks3, f, f2, D, z0, z1, tx, t1, t2, t3, r1, r2, r3, s1, s2, s3, bl, rfl, hW, hRC, hHC, F0⟩⟩
set_option maxRecDepth 100000 in
theorem t_keep_no {l : Launch} {E : Ev} (hst : l.stackTraces = false) {α : Nat → Nat} {σ : Sg} {hs : Nat → Sg} {cnt : Nat} {ks : Nat → Sg} {kd : Nat → Nat} {w : va_W} (hA : Ar E α σ hs cnt ks kd w) {x : Int32}(hx : ¬ vI x 2) : CtN l E yL_tryKeep method_29_code 3 (some FieldType.int) (some [(0, 5, 6, 13)]) 8 131 1 [.ref (α 0), .int x] w (fun v9 w9 => v9 = some (.int (-9999001)) ∧ Ar E α σ hs cnt ks kd w9) := by
  obtain ⟨od, sz, par, fre, pri, sls, drk, pla, tks, par1, fre1, pri1, sls1, drk1, pla1, tks1, sd, st, par3, fre3, pri3, sls3, drk3, pla3, tks3, f, f2, D, K, Z, tx, t1, t2, t3, r1, r2, r3, s1, s2, s3, bl, rfl, hW, hRC, hHC, hKC⟩ := hA
  have hwP := hW.P
  have hwA := hW.A
  have hwS := hW.S
  have h14 := hHC.1
  refine (wn_tryKeep_B (is := [0, 1, 2]) (c_X5_save__t (hst := hst) (hB := (α 0)) (b1 := (α 1)) (b2 := (α 2)) (b3 := (α 3)) (b4 := (α 4)) (b5 := (α 5)) (b6 := (α 6)) (b7 := (α 7)) (b8 := (α 8)) (b9 := (α 9)) (b10 := (α 10)) (c1 := (α 12)) (f := f) (σ := σ) (s := x) (hR := hRC) (hW := hW) (hx := hx)) rfl rfl rfl).mono ?_
  rintro v9 w9 ⟨u, rfl, rfl, rfl⟩
  exact ⟨rfl, ⟨od, sz, par, fre, pri, sls, drk, pla, tks, par1, fre1, pri1, sls1, drk1, pla1, tks1, sd, st, par3, fre3, pri3, sls3, drk3, pla3, tks3, f, f2, D, K, Z, tx, t1, t2, t3, r1, r2, r3, s1, s2, s3, bl, rfl, hW, hRC, hHC, hKC⟩⟩
set_option maxRecDepth 100000 in
theorem t_back {l : Launch} {E : Ev} (hst : l.stackTraces = false) {α : Nat → Nat} {σ : Sg} {hs : Nat → Sg} {cnt : Nat} {ks : Nat → Sg} {kd : Nat → Nat} {w : va_W} (hA : Ar E α σ hs cnt ks kd w) {k : Nat}(hk : k < 2) (hq : kd k = 1) : CtN l E yL_tryBack method_30_code 3 (some FieldType.int) (some [(0, 5, 6, 13), (0, 5, 10, 23)]) 8 131 0 [.ref (α 0), .int (nI k)] w (fun v9 w9 => v9 = some (.int (nI (sS (ks k)))) ∧ Ar E α (ks k) hs 0 ks kd w9) := by
  obtain ⟨od, sz, par, fre, pri, sls, drk, pla, tks, par1, fre1, pri1, sls1, drk1, pla1, tks1, sd, st, par3, fre3, pri3, sls3, drk3, pla3, tks3, f, f2, D, K, Z, tx, t1, t2, t3, r1, r2, r3, s1, s2, s3, bl, rfl, hW, hRC, hHC, hKC⟩ := hA
  have hwP := hW.P
  have hwA := hW.A
  have hwS := hW.S
  have h14 := hHC.1
  refine (wo_tryBack (is := [0, 1, 2, 5, 7, 8]) (c_X5_restore (hB := (α 0)) (b1 := (α 1)) (b2 := (α 2)) (b3 := (α 3)) (b4 := (α 4)) (b5 := (α 5)) (b6 := (α 6)) (b7 := (α 7)) (b8 := (α 8)) (b9 := (α 9)) (b10 := (α 10)) (c1 := (α 12)) (f := f) (σ := σ) (c3 := (α 14)) (od := od) (cnt := cnt) (ks := ks) (kd := kd) (K := K) (Z := Z) (s := k) (hR := hRC) (hW := hW) (hK := hKC) (hs := (by omega)) (hk1 := (by omega))) (fun v u h => by obtain ⟨z0, rfl, rfl, F0⟩ := h; exact ⟨⟨_, rfl⟩, rfl⟩) rfl rfl rfl).mono ?_
  rintro v9 w9 ⟨u, ⟨z0, rfl, rfl, F0⟩, rfl⟩
  exact ⟨rfl, ⟨0, sz, par, fre, pri, sls, drk, pla, tks, par1, fre1, pri1, sls1, drk1, pla1, tks1, sd, st, par3, fre3, pri3, sls3, drk3, pla3, tks3, z0, f2, D, K, Z, tx, t1, t2, t3, r1, r2, r3, s1, s2, s3, bl, rfl, ((hKC k hk).2.2 hq).1, F0, HistC_0 hs D, hKC⟩⟩
set_option maxRecDepth 100000 in
theorem t_back_na {l : Launch} {E : Ev} (hst : l.stackTraces = false) {α : Nat → Nat} {σ : Sg} {hs : Nat → Sg} {cnt : Nat} {ks : Nat → Sg} {kd : Nat → Nat} {w : va_W} (hA : Ar E α σ hs cnt ks kd w) {x : Int32}(hx : ¬ vI x 2) : CtN l E yL_tryBack method_30_code 3 (some FieldType.int) (some [(0, 5, 6, 13), (0, 5, 10, 23)]) 8 131 1 [.ref (α 0), .int x] w (fun v9 w9 => v9 = some (.int (-9999001)) ∧ Ar E α σ hs cnt ks kd w9) := by
  obtain ⟨od, sz, par, fre, pri, sls, drk, pla, tks, par1, fre1, pri1, sls1, drk1, pla1, tks1, sd, st, par3, fre3, pri3, sls3, drk3, pla3, tks3, f, f2, D, K, Z, tx, t1, t2, t3, r1, r2, r3, s1, s2, s3, bl, rfl, hW, hRC, hHC, hKC⟩ := hA
  have hwP := hW.P
  have hwA := hW.A
  have hwS := hW.S
  have h14 := hHC.1
  refine (wn_tryBack_B (is := [0, 1, 2]) (c_X5_restore__ta (hst := hst) (hB := (α 0)) (b1 := (α 1)) (b2 := (α 2)) (b3 := (α 3)) (b4 := (α 4)) (b5 := (α 5)) (b6 := (α 6)) (b7 := (α 7)) (b8 := (α 8)) (b9 := (α 9)) (b10 := (α 10)) (c1 := (α 12)) (f := f) (σ := σ) (s := x) (hR := hRC) (hW := hW) (hx := hx)) rfl rfl rfl).mono ?_
  rintro v9 w9 ⟨u, rfl, rfl, rfl⟩
  exact ⟨rfl, ⟨od, sz, par, fre, pri, sls, drk, pla, tks, par1, fre1, pri1, sls1, drk1, pla1, tks1, sd, st, par3, fre3, pri3, sls3, drk3, pla3, tks3, f, f2, D, K, Z, tx, t1, t2, t3, r1, r2, r3, s1, s2, s3, bl, rfl, hW, hRC, hHC, hKC⟩⟩
set_option maxRecDepth 100000 in
theorem t_back_nb {l : Launch} {E : Ev} (hst : l.stackTraces = false) {α : Nat → Nat} {σ : Sg} {hs : Nat → Sg} {cnt : Nat} {ks : Nat → Sg} {kd : Nat → Nat} {w : va_W} (hA : Ar E α σ hs cnt ks kd w) {k : Nat}(hk : k < 2) (hx : kd k ≠ 1) : CtN l E yL_tryBack method_30_code 3 (some FieldType.int) (some [(0, 5, 6, 13), (0, 5, 10, 23)]) 8 131 1 [.ref (α 0), .int (nI k)] w (fun v9 w9 => v9 = some (.int (-9999003)) ∧ Ar E α σ hs cnt ks kd w9) := by
  obtain ⟨od, sz, par, fre, pri, sls, drk, pla, tks, par1, fre1, pri1, sls1, drk1, pla1, tks1, sd, st, par3, fre3, pri3, sls3, drk3, pla3, tks3, f, f2, D, K, Z, tx, t1, t2, t3, r1, r2, r3, s1, s2, s3, bl, rfl, hW, hRC, hHC, hKC⟩ := hA
  have hwP := hW.P
  have hwA := hW.A
  have hwS := hW.S
  have h14 := hHC.1
  refine (wn_tryBack_S (is := [0, 1, 2, 8]) (c_X5_restore__tb (hst := hst) (hB := (α 0)) (b1 := (α 1)) (b2 := (α 2)) (b3 := (α 3)) (b4 := (α 4)) (b5 := (α 5)) (b6 := (α 6)) (b7 := (α 7)) (b8 := (α 8)) (b9 := (α 9)) (b10 := (α 10)) (c1 := (α 12)) (f := f) (σ := σ) (ks := ks) (kd := kd) (K := K) (Z := Z) (s := k) (hR := hRC) (hW := hW) (hK := hKC) (hs := (by omega)) (hk0 := (by have := (hKC k hk).1; omega))) rfl rfl rfl).mono ?_
  rintro v9 w9 ⟨u, rfl, rfl, rfl⟩
  exact ⟨rfl, ⟨od, sz, par, fre, pri, sls, drk, pla, tks, par1, fre1, pri1, sls1, drk1, pla1, tks1, sd, st, par3, fre3, pri3, sls3, drk3, pla3, tks3, f, f2, D, K, Z, tx, t1, t2, t3, r1, r2, r3, s1, s2, s3, bl, rfl, hW, hRC, hHC, hKC⟩⟩
set_option maxRecDepth 100000 in
theorem t_append_no {l : Launch} {E : Ev} (hst : l.stackTraces = false) {α : Nat → Nat} {σ : Sg} {hs : Nat → Sg} {cnt : Nat} {ks : Nat → Sg} {kd : Nat → Nat} {w : va_W} (hA : Ar E α σ hs cnt ks kd w) {x : Int32}(hx : ¬ vI x 256) : CtN l E yL_tryAppend method_6_code 3 (some FieldType.int) (some [(0, 5, 6, 20), (0, 5, 10, 23)]) 7 111 1 [.ref (α 0), .int x] w (fun v9 w9 => v9 = some (.int (-9999002)) ∧ Ar E α σ hs cnt ks kd w9) := by
  obtain ⟨od, sz, par, fre, pri, sls, drk, pla, tks, par1, fre1, pri1, sls1, drk1, pla1, tks1, sd, st, par3, fre3, pri3, sls3, drk3, pla3, tks3, f, f2, D, K, Z, tx, t1, t2, t3, r1, r2, r3, s1, s2, s3, bl, rfl, hW, hRC, hHC, hKC⟩ := hA
  have hwP := hW.P
  have hwA := hW.A
  have hwS := hW.S
  have h14 := hHC.1
  refine (wn_tryAppend_A (is := [0, 9, 10]) (c_X5_append__ta (hst := hst) (hB := (α 0)) (b1 := (α 1)) (b2 := (α 2)) (b3 := (α 3)) (b4 := (α 4)) (b5 := (α 5)) (b6 := (α 6)) (b7 := (α 7)) (b8 := (α 8)) (b9 := (α 9)) (b10 := (α 10)) (c6 := (α 15)) (sz := sz) (tx := tx) (c := x) (hx := hx)) rfl rfl rfl).mono ?_
  rintro v9 w9 ⟨u, rfl, rfl, rfl⟩
  exact ⟨rfl, ⟨od, sz, par, fre, pri, sls, drk, pla, tks, par1, fre1, pri1, sls1, drk1, pla1, tks1, sd, st, par3, fre3, pri3, sls3, drk3, pla3, tks3, f, f2, D, K, Z, tx, t1, t2, t3, r1, r2, r3, s1, s2, s3, bl, rfl, hW, hRC, hHC, hKC⟩⟩
set_option maxRecDepth 100000 in
theorem t_ill {l : Launch} {E : Ev} (hst : l.stackTraces = false) {α : Nat → Nat} {σ : Sg} {hs : Nat → Sg} {cnt : Nat} {ks : Nat → Sg} {kd : Nat → Nat} {w : va_W} (hA : Ar E α σ hs cnt ks kd w) {a n k : Nat}(ha : a < sA σ)(hn : n < 20)(hk : k ≤ 1) : CtN l E yL_setIll method_2_code 5 (some FieldType.int) (some [(0, 7, 8, 13)]) 8 134 0 [.ref (α 0), .int (nI a), .int (nI n), .int (nI k)] w (fun v9 w9 => v9 = some (.int (nI (cntI (oIll σ a n k) a 20))) ∧ Ar E α (oIll σ a n k) (pushH hs cnt σ) (pushN cnt) ks kd w9) := by
  obtain ⟨od, sz, par, fre, pri, sls, drk, pla, tks, par1, fre1, pri1, sls1, drk1, pla1, tks1, sd, st, par3, fre3, pri3, sls3, drk3, pla3, tks3, f, f2, D, K, Z, tx, t1, t2, t3, r1, r2, r3, s1, s2, s3, bl, rfl, hW, hRC, hHC, hKC⟩ := hA
  have hwP := hW.P
  have hwA := hW.A
  have hwS := hW.S
  have h14 := hHC.1
  refine (wo_setIll (is := [0, 1, 2, 5, 6]) (c_X5_ill (hB := (α 0)) (b1 := (α 1)) (b2 := (α 2)) (b3 := (α 3)) (b4 := (α 4)) (b5 := (α 5)) (b6 := (α 6)) (b7 := (α 7)) (b8 := (α 8)) (b9 := (α 9)) (b10 := (α 10)) (c1 := (α 12)) (f := f) (σ := σ) (c3 := (α 14)) (od := od) (cnt := cnt) (D := D) (hs := hs) (a := a) (n := n) (b := k) (hR := hRC) (hW := hW) (hH := hHC) (ha := (by omega)) (hn := (by omega)) (hb := (by omega))) (fun v u h => by obtain ⟨z0, z1, z2, rfl, rfl, F0, F1⟩ := h; exact ⟨⟨_, rfl⟩, rfl⟩) rfl rfl rfl).mono ?_
  rintro v9 w9 ⟨u, ⟨z0, z1, z2, rfl, rfl, F0, F1⟩, rfl⟩
  exact ⟨rfl, ⟨z1, sz, par, fre, pri, sls, drk, pla, tks, par1, fre1, pri1, sls1, drk1, pla1, tks1, sd, st, par3, fre3, pri3, sls3, drk3, pla3, tks3, z0, f2, z2, K, Z, tx, t1, t2, t3, r1, r2, r3, s1, s2, s3, bl, rfl, oIll_wf hW hk ha, F0, F1, hKC⟩⟩
set_option maxRecDepth 100000 in
theorem t_ill_na {l : Launch} {E : Ev} (hst : l.stackTraces = false) {α : Nat → Nat} {σ : Sg} {hs : Nat → Sg} {cnt : Nat} {ks : Nat → Sg} {kd : Nat → Nat} {w : va_W} (hA : Ar E α σ hs cnt ks kd w) {x y z : Int32}(hx : ¬ vI x (sA σ)) : CtN l E yL_setIll method_2_code 5 (some FieldType.int) (some [(0, 7, 8, 13)]) 8 134 1 [.ref (α 0), .int x, .int y, .int z] w (fun v9 w9 => v9 = some (.int (-9999001)) ∧ Ar E α σ hs cnt ks kd w9) := by
  obtain ⟨od, sz, par, fre, pri, sls, drk, pla, tks, par1, fre1, pri1, sls1, drk1, pla1, tks1, sd, st, par3, fre3, pri3, sls3, drk3, pla3, tks3, f, f2, D, K, Z, tx, t1, t2, t3, r1, r2, r3, s1, s2, s3, bl, rfl, hW, hRC, hHC, hKC⟩ := hA
  have hwP := hW.P
  have hwA := hW.A
  have hwS := hW.S
  have h14 := hHC.1
  refine (wn_setIll_B (is := [0, 1, 2]) (c_X5_ill__ta (hst := hst) (hB := (α 0)) (b1 := (α 1)) (b2 := (α 2)) (b3 := (α 3)) (b4 := (α 4)) (b5 := (α 5)) (b6 := (α 6)) (b7 := (α 7)) (b8 := (α 8)) (b9 := (α 9)) (b10 := (α 10)) (c1 := (α 12)) (f := f) (σ := σ) (a := x) (n := y) (b := z) (hR := hRC) (hW := hW) (hx := hx)) rfl rfl rfl).mono ?_
  rintro v9 w9 ⟨u, rfl, rfl, rfl⟩
  exact ⟨rfl, ⟨od, sz, par, fre, pri, sls, drk, pla, tks, par1, fre1, pri1, sls1, drk1, pla1, tks1, sd, st, par3, fre3, pri3, sls3, drk3, pla3, tks3, f, f2, D, K, Z, tx, t1, t2, t3, r1, r2, r3, s1, s2, s3, bl, rfl, hW, hRC, hHC, hKC⟩⟩
set_option maxRecDepth 100000 in
theorem t_ill_nb {l : Launch} {E : Ev} (hst : l.stackTraces = false) {α : Nat → Nat} {σ : Sg} {hs : Nat → Sg} {cnt : Nat} {ks : Nat → Sg} {kd : Nat → Nat} {w : va_W} (hA : Ar E α σ hs cnt ks kd w) {a : Nat}{x y : Int32}(ha : a < sA σ)(hx : ¬ vI x 20) : CtN l E yL_setIll method_2_code 5 (some FieldType.int) (some [(0, 7, 8, 13)]) 8 134 1 [.ref (α 0), .int (nI a), .int x, .int y] w (fun v9 w9 => v9 = some (.int (-9999001)) ∧ Ar E α σ hs cnt ks kd w9) := by
  obtain ⟨od, sz, par, fre, pri, sls, drk, pla, tks, par1, fre1, pri1, sls1, drk1, pla1, tks1, sd, st, par3, fre3, pri3, sls3, drk3, pla3, tks3, f, f2, D, K, Z, tx, t1, t2, t3, r1, r2, r3, s1, s2, s3, bl, rfl, hW, hRC, hHC, hKC⟩ := hA
  have hwP := hW.P
  have hwA := hW.A
  have hwS := hW.S
  have h14 := hHC.1
  refine (wn_setIll_B (is := [0, 1, 2]) (c_X5_ill__tb (hst := hst) (hB := (α 0)) (b1 := (α 1)) (b2 := (α 2)) (b3 := (α 3)) (b4 := (α 4)) (b5 := (α 5)) (b6 := (α 6)) (b7 := (α 7)) (b8 := (α 8)) (b9 := (α 9)) (b10 := (α 10)) (c1 := (α 12)) (f := f) (σ := σ) (a := a) (n := x) (b := y) (hR := hRC) (hW := hW) (h1 := (by omega)) (hx := hx)) rfl rfl rfl).mono ?_
  rintro v9 w9 ⟨u, rfl, rfl, rfl⟩
  exact ⟨rfl, ⟨od, sz, par, fre, pri, sls, drk, pla, tks, par1, fre1, pri1, sls1, drk1, pla1, tks1, sd, st, par3, fre3, pri3, sls3, drk3, pla3, tks3, f, f2, D, K, Z, tx, t1, t2, t3, r1, r2, r3, s1, s2, s3, bl, rfl, hW, hRC, hHC, hKC⟩⟩
set_option maxRecDepth 100000 in
theorem t_slip {l : Launch} {E : Ev} (hst : l.stackTraces = false) {α : Nat → Nat} {σ : Sg} {hs : Nat → Sg} {cnt : Nat} {ks : Nat → Sg} {kd : Nat → Nat} {w : va_W} (hA : Ar E α σ hs cnt ks kd w) {n p a k : Nat}(hn : n < 20)(hp : p < sP σ)(ha : a < sA σ)(hk : k < 24) (hq : sS σ < 20) : CtN l E yL_addSlip method_3_code 6 (some FieldType.int) (some [(0, 9, 10, 13), (0, 9, 15, 20), (0, 9, 20, 23)]) 8 136 0 [.ref (α 0), .int (nI n), .int (nI p), .int (nI a), .int (nI k)] w (fun v9 w9 => v9 = some (.int (nI (sS σ))) ∧ Ar E α (oSlip σ n p a k) (pushH hs cnt σ) (pushN cnt) ks kd w9) := by
  obtain ⟨od, sz, par, fre, pri, sls, drk, pla, tks, par1, fre1, pri1, sls1, drk1, pla1, tks1, sd, st, par3, fre3, pri3, sls3, drk3, pla3, tks3, f, f2, D, K, Z, tx, t1, t2, t3, r1, r2, r3, s1, s2, s3, bl, rfl, hW, hRC, hHC, hKC⟩ := hA
  have hwP := hW.P
  have hwA := hW.A
  have hwS := hW.S
  have h14 := hHC.1
  refine (wo_addSlip (is := [0, 1, 2, 5, 6]) (c_X5_slip (hB := (α 0)) (b1 := (α 1)) (b2 := (α 2)) (b3 := (α 3)) (b4 := (α 4)) (b5 := (α 5)) (b6 := (α 6)) (b7 := (α 7)) (b8 := (α 8)) (b9 := (α 9)) (b10 := (α 10)) (c1 := (α 12)) (f := f) (σ := σ) (c3 := (α 14)) (od := od) (cnt := cnt) (D := D) (hs := hs) (n := n) (p := p) (a := a) (x := k) (hR := hRC) (hW := hW) (hH := hHC) (hn := (by omega)) (hp := (by omega)) (ha := (by omega)) (hx := (by omega)) (hS := (by omega))) (fun v u h => by obtain ⟨z0, z1, z2, rfl, rfl, F0, F1⟩ := h; exact ⟨⟨_, rfl⟩, rfl⟩) rfl rfl rfl).mono ?_
  rintro v9 w9 ⟨u, ⟨z0, z1, z2, rfl, rfl, F0, F1⟩, rfl⟩
  exact ⟨rfl, ⟨z1, sz, par, fre, pri, sls, drk, pla, tks, par1, fre1, pri1, sls1, drk1, pla1, tks1, sd, st, par3, fre3, pri3, sls3, drk3, pla3, tks3, z0, f2, z2, K, Z, tx, t1, t2, t3, r1, r2, r3, s1, s2, s3, bl, rfl, oSlip_wf hW hn hp ha hk hq, F0, F1, hKC⟩⟩
set_option maxRecDepth 100000 in
theorem t_slip_na {l : Launch} {E : Ev} (hst : l.stackTraces = false) {α : Nat → Nat} {σ : Sg} {hs : Nat → Sg} {cnt : Nat} {ks : Nat → Sg} {kd : Nat → Nat} {w : va_W} (hA : Ar E α σ hs cnt ks kd w) {x y z u : Int32}(hx : ¬ vI x 20) : CtN l E yL_addSlip method_3_code 6 (some FieldType.int) (some [(0, 9, 10, 13), (0, 9, 15, 20), (0, 9, 20, 23)]) 8 136 1 [.ref (α 0), .int x, .int y, .int z, .int u] w (fun v9 w9 => v9 = some (.int (-9999001)) ∧ Ar E α σ hs cnt ks kd w9) := by
  obtain ⟨od, sz, par, fre, pri, sls, drk, pla, tks, par1, fre1, pri1, sls1, drk1, pla1, tks1, sd, st, par3, fre3, pri3, sls3, drk3, pla3, tks3, f, f2, D, K, Z, tx, t1, t2, t3, r1, r2, r3, s1, s2, s3, bl, rfl, hW, hRC, hHC, hKC⟩ := hA
  have hwP := hW.P
  have hwA := hW.A
  have hwS := hW.S
  have h14 := hHC.1
  refine (wn_addSlip_B (is := [0, 1, 2]) (c_X5_slip__ta (hst := hst) (hB := (α 0)) (b1 := (α 1)) (b2 := (α 2)) (b3 := (α 3)) (b4 := (α 4)) (b5 := (α 5)) (b6 := (α 6)) (b7 := (α 7)) (b8 := (α 8)) (b9 := (α 9)) (b10 := (α 10)) (c1 := (α 12)) (f := f) (σ := σ) (n := x) (p := y) (a := z) (x := u) (hR := hRC) (hW := hW) (hx := hx)) rfl rfl rfl).mono ?_
  rintro v9 w9 ⟨u, rfl, rfl, rfl⟩
  exact ⟨rfl, ⟨od, sz, par, fre, pri, sls, drk, pla, tks, par1, fre1, pri1, sls1, drk1, pla1, tks1, sd, st, par3, fre3, pri3, sls3, drk3, pla3, tks3, f, f2, D, K, Z, tx, t1, t2, t3, r1, r2, r3, s1, s2, s3, bl, rfl, hW, hRC, hHC, hKC⟩⟩
set_option maxRecDepth 100000 in
theorem t_slip_nd {l : Launch} {E : Ev} (hst : l.stackTraces = false) {α : Nat → Nat} {σ : Sg} {hs : Nat → Sg} {cnt : Nat} {ks : Nat → Sg} {kd : Nat → Nat} {w : va_W} (hA : Ar E α σ hs cnt ks kd w) {n p a : Nat}{x : Int32}(hn : n < 20)(hp : p < sP σ)(ha : a < sA σ)(hx : ¬ vI x 24) : CtN l E yL_addSlip method_3_code 6 (some FieldType.int) (some [(0, 9, 10, 13), (0, 9, 15, 20), (0, 9, 20, 23)]) 8 136 1 [.ref (α 0), .int (nI n), .int (nI p), .int (nI a), .int x] w (fun v9 w9 => v9 = some (.int (-9999002)) ∧ Ar E α σ hs cnt ks kd w9) := by
  obtain ⟨od, sz, par, fre, pri, sls, drk, pla, tks, par1, fre1, pri1, sls1, drk1, pla1, tks1, sd, st, par3, fre3, pri3, sls3, drk3, pla3, tks3, f, f2, D, K, Z, tx, t1, t2, t3, r1, r2, r3, s1, s2, s3, bl, rfl, hW, hRC, hHC, hKC⟩ := hA
  have hwP := hW.P
  have hwA := hW.A
  have hwS := hW.S
  have h14 := hHC.1
  refine (wn_addSlip_A (is := [0, 1, 2]) (c_X5_slip__td (hst := hst) (hB := (α 0)) (b1 := (α 1)) (b2 := (α 2)) (b3 := (α 3)) (b4 := (α 4)) (b5 := (α 5)) (b6 := (α 6)) (b7 := (α 7)) (b8 := (α 8)) (b9 := (α 9)) (b10 := (α 10)) (c1 := (α 12)) (f := f) (σ := σ) (n := n) (p := p) (a := a) (x := x) (hR := hRC) (hW := hW) (hn := (by omega)) (hp := (by omega)) (ha := (by omega)) (hx := hx)) rfl rfl rfl).mono ?_
  rintro v9 w9 ⟨u, rfl, rfl, rfl⟩
  exact ⟨rfl, ⟨od, sz, par, fre, pri, sls, drk, pla, tks, par1, fre1, pri1, sls1, drk1, pla1, tks1, sd, st, par3, fre3, pri3, sls3, drk3, pla3, tks3, f, f2, D, K, Z, tx, t1, t2, t3, r1, r2, r3, s1, s2, s3, bl, rfl, hW, hRC, hHC, hKC⟩⟩
set_option maxRecDepth 100000 in
theorem t_slip_ne {l : Launch} {E : Ev} (hst : l.stackTraces = false) {α : Nat → Nat} {σ : Sg} {hs : Nat → Sg} {cnt : Nat} {ks : Nat → Sg} {kd : Nat → Nat} {w : va_W} (hA : Ar E α σ hs cnt ks kd w) {n p a k : Nat}(hn : n < 20)(hp : p < sP σ)(ha : a < sA σ)(hk : k < 24) (hx : ¬ sS σ < 20) : CtN l E yL_addSlip method_3_code 6 (some FieldType.int) (some [(0, 9, 10, 13), (0, 9, 15, 20), (0, 9, 20, 23)]) 8 136 1 [.ref (α 0), .int (nI n), .int (nI p), .int (nI a), .int (nI k)] w (fun v9 w9 => v9 = some (.int (-9999003)) ∧ Ar E α σ hs cnt ks kd w9) := by
  obtain ⟨od, sz, par, fre, pri, sls, drk, pla, tks, par1, fre1, pri1, sls1, drk1, pla1, tks1, sd, st, par3, fre3, pri3, sls3, drk3, pla3, tks3, f, f2, D, K, Z, tx, t1, t2, t3, r1, r2, r3, s1, s2, s3, bl, rfl, hW, hRC, hHC, hKC⟩ := hA
  have hwP := hW.P
  have hwA := hW.A
  have hwS := hW.S
  have h14 := hHC.1
  refine (wn_addSlip_S (is := [0, 1, 2]) (c_X5_slip__te (hst := hst) (hB := (α 0)) (b1 := (α 1)) (b2 := (α 2)) (b3 := (α 3)) (b4 := (α 4)) (b5 := (α 5)) (b6 := (α 6)) (b7 := (α 7)) (b8 := (α 8)) (b9 := (α 9)) (b10 := (α 10)) (c1 := (α 12)) (f := f) (σ := σ) (n := n) (p := p) (a := a) (x := k) (hR := hRC) (hW := hW) (hn := (by omega)) (hp := (by omega)) (ha := (by omega)) (h24 := (by omega)) (hx := (by omega))) rfl rfl rfl).mono ?_
  rintro v9 w9 ⟨u, rfl, rfl, rfl⟩
  exact ⟨rfl, ⟨od, sz, par, fre, pri, sls, drk, pla, tks, par1, fre1, pri1, sls1, drk1, pla1, tks1, sd, st, par3, fre3, pri3, sls3, drk3, pla3, tks3, f, f2, D, K, Z, tx, t1, t2, t3, r1, r2, r3, s1, s2, s3, bl, rfl, hW, hRC, hHC, hKC⟩⟩
set_option maxRecDepth 100000 in
theorem t_script_na {l : Launch} {E : Ev} (hst : l.stackTraces = false) {α : Nat → Nat} {σ : Sg} {hs : Nat → Sg} {cnt : Nat} {ks : Nat → Sg} {kd : Nat → Nat} {w : va_W} (hA : Ar E α σ hs cnt ks kd w) {x : Int32} {z : Int64} (hx : ¬ vJ x 3) : CtN l E yL_doScript method_4_code 5 (some FieldType.int) (some [(0, 6, 7, 20)]) 7 168 1 [.ref (α 0), .int x, .long z] w (fun v9 w9 => v9 = some (.int (-9999002)) ∧ Ar E α σ hs cnt ks kd w9) := by
  obtain ⟨od, sz, par, fre, pri, sls, drk, pla, tks, par1, fre1, pri1, sls1, drk1, pla1, tks1, sd, st, par3, fre3, pri3, sls3, drk3, pla3, tks3, f, f2, D, K, Z, tx, t1, t2, t3, r1, r2, r3, s1, s2, s3, bl, rfl, hW, hRC, hHC, hKC⟩ := hA
  have hwP := hW.P
  have hwA := hW.A
  have hwS := hW.S
  have h14 := hHC.1
  refine (wn_doScript_A (is := [0, 1, 2]) (c_X5_runScript__ta (hst := hst) (hB := (α 0)) (b1 := (α 1)) (b2 := (α 2)) (b3 := (α 3)) (b4 := (α 4)) (b5 := (α 5)) (b6 := (α 6)) (b7 := (α 7)) (b8 := (α 8)) (b9 := (α 9)) (b10 := (α 10)) (c1 := (α 12)) (f := f) (σ := σ) (n := x) (z := z) (hR := hRC) (hW := hW) (hx := hx)) rfl rfl rfl).mono ?_
  rintro v9 w9 ⟨u, rfl, rfl, rfl⟩
  exact ⟨rfl, ⟨od, sz, par, fre, pri, sls, drk, pla, tks, par1, fre1, pri1, sls1, drk1, pla1, tks1, sd, st, par3, fre3, pri3, sls3, drk3, pla3, tks3, f, f2, D, K, Z, tx, t1, t2, t3, r1, r2, r3, s1, s2, s3, bl, rfl, hW, hRC, hHC, hKC⟩⟩
set_option maxRecDepth 100000 in
theorem t_script_nc {l : Launch} {E : Ev} (hst : l.stackTraces = false) {α : Nat → Nat} {σ : Sg} {hs : Nat → Sg} {cnt : Nat} {ks : Nat → Sg} {kd : Nat → Nat} {w : va_W} (hA : Ar E α σ hs cnt ks kd w) {n S : Nat} (hn : 1 ≤ n ∧ n ≤ 3) (hS : S < 9223372036854775808) (hx : 100000 ^ n ≤ S) : CtN l E yL_doScript method_4_code 5 (some FieldType.int) (some [(0, 6, 7, 20)]) 7 168 1 [.ref (α 0), .int (nI n), .long (lN S)] w (fun v9 w9 => v9 = some (.int (-9999002)) ∧ Ar E α σ hs cnt ks kd w9) := by
  obtain ⟨od, sz, par, fre, pri, sls, drk, pla, tks, par1, fre1, pri1, sls1, drk1, pla1, tks1, sd, st, par3, fre3, pri3, sls3, drk3, pla3, tks3, f, f2, D, K, Z, tx, t1, t2, t3, r1, r2, r3, s1, s2, s3, bl, rfl, hW, hRC, hHC, hKC⟩ := hA
  have hwP := hW.P
  have hwA := hW.A
  have hwS := hW.S
  have h14 := hHC.1
  refine (wn_doScript_A (is := [0, 1, 2]) (c_X5_runScript__tc (hst := hst) (hB := (α 0)) (b1 := (α 1)) (b2 := (α 2)) (b3 := (α 3)) (b4 := (α 4)) (b5 := (α 5)) (b6 := (α 6)) (b7 := (α 7)) (b8 := (α 8)) (b9 := (α 9)) (b10 := (α 10)) (c1 := (α 12)) (f := f) (σ := σ) (n := n) (S := S) (hR := hRC) (hW := hW) (hn := (by omega)) (hS := (by omega)) (hx := hx)) rfl rfl rfl).mono ?_
  rintro v9 w9 ⟨u, rfl, rfl, rfl⟩
  exact ⟨rfl, ⟨od, sz, par, fre, pri, sls, drk, pla, tks, par1, fre1, pri1, sls1, drk1, pla1, tks1, sd, st, par3, fre3, pri3, sls3, drk3, pla3, tks3, f, f2, D, K, Z, tx, t1, t2, t3, r1, r2, r3, s1, s2, s3, bl, rfl, hW, hRC, hHC, hKC⟩⟩
set_option maxRecDepth 100000 in
theorem t_simulate {l : Launch} {E : Ev} (hst : l.stackTraces = false) {α : Nat → Nat} {σ : Sg} {hs : Nat → Sg} {cnt : Nat} {ks : Nat → Sg} {kd : Nat → Nat} {w : va_W} (hA : Ar E α σ hs cnt ks kd w) {z : Int64} {m : Nat} (hm : 1 ≤ m ∧ m ≤ 60) : CtN l E yL_doSimulate method_5_code 5 (some FieldType.int) (some [(0, 6, 7, 20)]) 7 143 0 [.ref (α 0), .long z, .int (nI m)] w (fun v9 w9 => v9 = some (.int (nI (100000 * dkS (siS σ z m) 20 + tkS (siS σ z m) 20))) ∧ Ar E α σ hs cnt ks kd w9) := by
  obtain ⟨od, sz, par, fre, pri, sls, drk, pla, tks, par1, fre1, pri1, sls1, drk1, pla1, tks1, sd, st, par3, fre3, pri3, sls3, drk3, pla3, tks3, f, f2, D, K, Z, tx, t1, t2, t3, r1, r2, r3, s1, s2, s3, bl, rfl, hW, hRC, hHC, hKC⟩ := hA
  have hwP := hW.P
  have hwA := hW.A
  have hwS := hW.S
  have h14 := hHC.1
  refine (wo_doSimulate (is := [0, 1, 2, 3, 4, 11, 12, 13, 14, 19, 20, 21, 22, 23]) (c_X5_simulate (hB := (α 0)) (b1 := (α 1)) (b2 := (α 2)) (b3 := (α 3)) (b4 := (α 4)) (b5 := (α 5)) (b6 := (α 6)) (b7 := (α 7)) (b8 := (α 8)) (b9 := (α 9)) (b10 := (α 10)) (c1 := (α 12)) (f := f) (σ := σ) (c2 := (α 13)) (f2 := f2) (b11 := (α 11)) (sd := sd) (st := st) (e1 := (α 16)) (e2 := (α 17)) (e3 := (α 18)) (par := par) (fre := fre) (pri := pri) (sls := sls) (drk := drk) (pla := pla) (tks := tks) (t1 := t1) (t2 := t2) (t3 := t3) (g1 := (α 22)) (g2 := (α 23)) (g3 := (α 24)) (par1 := par3) (fre1 := fre3) (pri1 := pri3) (sls1 := sls3) (drk1 := drk3) (pla1 := pla3) (tks1 := tks3) (r1 := s1) (r2 := s2) (r3 := s3) (x := z) (m := m) (hR := hRC) (hW := hW) (hm := (by omega))) (fun v u h => by obtain ⟨z0, z1, z2, z3, z4, z5, z6, z7, z8, z9, z10, z11, z12, z13, z14, z15, z16, z17, z18, z19, z20, z21, z22, rfl, rfl⟩ := h; exact ⟨⟨_, rfl⟩, rfl⟩) rfl rfl rfl).mono ?_
  rintro v9 w9 ⟨u, ⟨z0, z1, z2, z3, z4, z5, z6, z7, z8, z9, z10, z11, z12, z13, z14, z15, z16, z17, z18, z19, z20, z21, z22, rfl, rfl⟩, rfl⟩
  exact ⟨rfl, ⟨od, sz, z3, z4, z5, z6, z7, z8, z9, par1, fre1, pri1, sls1, drk1, pla1, tks1, z1, z2, z10, z11, z12, z13, z14, z15, z16, f, z0, D, K, Z, tx, z17, z18, z19, r1, r2, r3, z20, z21, z22, bl, rfl, hW, hRC, hHC, hKC⟩⟩
set_option maxRecDepth 100000 in
theorem t_simulate_no {l : Launch} {E : Ev} (hst : l.stackTraces = false) {α : Nat → Nat} {σ : Sg} {hs : Nat → Sg} {cnt : Nat} {ks : Nat → Sg} {kd : Nat → Nat} {w : va_W} (hA : Ar E α σ hs cnt ks kd w) {z : Int64} {x : Int32} (hx : ¬ vJ x 60) : CtN l E yL_doSimulate method_5_code 5 (some FieldType.int) (some [(0, 6, 7, 20)]) 7 143 1 [.ref (α 0), .long z, .int x] w (fun v9 w9 => v9 = some (.int (-9999002)) ∧ Ar E α σ hs cnt ks kd w9) := by
  obtain ⟨od, sz, par, fre, pri, sls, drk, pla, tks, par1, fre1, pri1, sls1, drk1, pla1, tks1, sd, st, par3, fre3, pri3, sls3, drk3, pla3, tks3, f, f2, D, K, Z, tx, t1, t2, t3, r1, r2, r3, s1, s2, s3, bl, rfl, hW, hRC, hHC, hKC⟩ := hA
  have hwP := hW.P
  have hwA := hW.A
  have hwS := hW.S
  have h14 := hHC.1
  refine (wn_doSimulate_A (is := [0, 1, 2]) (c_X5_simulate__t (hst := hst) (hB := (α 0)) (b1 := (α 1)) (b2 := (α 2)) (b3 := (α 3)) (b4 := (α 4)) (b5 := (α 5)) (b6 := (α 6)) (b7 := (α 7)) (b8 := (α 8)) (b9 := (α 9)) (b10 := (α 10)) (c1 := (α 12)) (f := f) (σ := σ) (z := z) (m := x) (hR := hRC) (hW := hW) (hx := hx)) rfl rfl rfl).mono ?_
  rintro v9 w9 ⟨u, rfl, rfl, rfl⟩
  exact ⟨rfl, ⟨od, sz, par, fre, pri, sls, drk, pla, tks, par1, fre1, pri1, sls1, drk1, pla1, tks1, sd, st, par3, fre3, pri3, sls3, drk3, pla3, tks3, f, f2, D, K, Z, tx, t1, t2, t3, r1, r2, r3, s1, s2, s3, bl, rfl, hW, hRC, hHC, hKC⟩⟩
