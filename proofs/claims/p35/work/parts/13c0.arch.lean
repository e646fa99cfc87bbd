/-- an archive at the places α: its state, its diary, its slots; all else in it is scratch -/
def Ar (E : Ev) (α : Nat → Nat) (σ : Sg) (hs : Nat → Sg) (cnt : Nat) (ks : Nat → Sg) (kd : Nat → Nat) (w : va_W) : Prop := ∃ (od sz par fre pri sls drk pla tks par1 fre1 pri1 sls1 drk1 pla1 tks1 sd st par3 fre3 pri3 sls3 drk3 pla3 tks3 : Nat) (f f2 D K Z tx t1 t2 t3 r1 r2 r3 s1 s2 s3 bl : Nat → Int32), w = [((α 0), .inr (5, [.ref (α 1), .ref (α 2), .ref (α 3), .ref (α 4), .ref (α 5), .ref (α 6), .ref (α 7), .ref (α 8), .ref (α 9), .ref (α 10)])), ((α 1), .inr (4, [.ref (α 12)])), ((α 12), .inl (eI E, 265, .inl f)), ((α 2), .inr (4, [.ref (α 13)])), ((α 13), .inl (eI E, 265, .inl f2)), ((α 3), .inr (1, [.ref (α 14), .int (nI od), .int (nI cnt)])), ((α 14), .inl (eI E, 3710, .inl D)), ((α 4), .inl (eI E, 530, .inl K)), ((α 5), .inl (eZ E, 2, .inl Z)), ((α 6), .inr (2, [.ref (α 15), .int (nI sz)])), ((α 15), .inl (eI E, 120, .inl tx)), ((α 7), .inr (0, [.ref (α 16), .ref (α 17), .ref (α 18), .int (nI par), .int (nI fre), .int (nI pri), .int (nI sls), .int (nI drk), .int (nI pla), .int (nI tks)])), ((α 16), .inl (eI E, 6, .inl t1)), ((α 17), .inl (eI E, 6, .inl t2)), ((α 18), .inl (eI E, 6, .inl t3)), ((α 8), .inr (0, [.ref (α 19), .ref (α 20), .ref (α 21), .int (nI par1), .int (nI fre1), .int (nI pri1), .int (nI sls1), .int (nI drk1), .int (nI pla1), .int (nI tks1)])), ((α 19), .inl (eI E, 6, .inl r1)), ((α 20), .inl (eI E, 6, .inl r2)), ((α 21), .inl (eI E, 6, .inl r3)), ((α 9), .inr (3, [.ref (α 11), .int (nI sd), .int (nI st)])), ((α 11), .inr (0, [.ref (α 22), .ref (α 23), .ref (α 24), .int (nI par3), .int (nI fre3), .int (nI pri3), .int (nI sls3), .int (nI drk3), .int (nI pla3), .int (nI tks3)])), ((α 22), .inl (eI E, 6, .inl s1)), ((α 23), .inl (eI E, 6, .inl s2)), ((α 24), .inl (eI E, 6, .inl s3)), ((α 10), .inl (eI E, 20, .inl bl))] ∧ Wf σ ∧ RepC σ f ∧ HistC hs cnt od D ∧ KeepC ks kd K Z
theorem HistC_0 (hs : Nat → Sg) (D : Nat → Int32) : HistC hs 0 0 D := ⟨by omega, by omega, fun k hk => absurd hk (Nat.not_lt_zero k)⟩
section AR
variable {E : Ev} {α : Nat → Nat} {σ : Sg} {hs : Nat → Sg} {cnt : Nat} {ks : Nat → Sg} {kd : Nat → Nat} {w : va_W}
theorem Ar.W (h : Ar E α σ hs cnt ks kd w) : Wf σ := by
  obtain ⟨od, sz, par, fre, pri, sls, drk, pla, tks, par1, fre1, pri1, sls1, drk1, pla1, tks1, sd, st, par3, fre3, pri3, sls3, drk3, pla3, tks3, f, f2, D, K, Z, tx, t1, t2, t3, r1, r2, r3, s1, s2, s3, bl, -, hW, -⟩ := h
  exact hW
theorem Ar.N (h : Ar E α σ hs cnt ks kd w) : cnt ≤ 14 := by
  obtain ⟨od, sz, par, fre, pri, sls, drk, pla, tks, par1, fre1, pri1, sls1, drk1, pla1, tks1, sd, st, par3, fre3, pri3, sls3, drk3, pla3, tks3, f, f2, D, K, Z, tx, t1, t2, t3, r1, r2, r3, s1, s2, s3, bl, -, -, -, hH, -⟩ := h
  exact hH.1
theorem Ar.fst (h : Ar E α σ hs cnt ks kd w) : w.map Prod.fst = [(α 0), (α 1), (α 12), (α 2), (α 13), (α 3), (α 14), (α 4), (α 5), (α 6), (α 15), (α 7), (α 16), (α 17), (α 18), (α 8), (α 19), (α 20), (α 21), (α 9), (α 11), (α 22), (α 23), (α 24), (α 10)] := by
  obtain ⟨od, sz, par, fre, pri, sls, drk, pla, tks, par1, fre1, pri1, sls1, drk1, pla1, tks1, sd, st, par3, fre3, pri3, sls3, drk3, pla3, tks3, f, f2, D, K, Z, tx, t1, t2, t3, r1, r2, r3, s1, s2, s3, bl, rfl, -⟩ := h
  rfl
theorem Ar.len (h : Ar E α σ hs cnt ks kd w) : w.length = 25 := by
  obtain ⟨od, sz, par, fre, pri, sls, drk, pla, tks, par1, fre1, pri1, sls1, drk1, pla1, tks1, sd, st, par3, fre3, pri3, sls3, drk3, pla3, tks3, f, f2, D, K, Z, tx, t1, t2, t3, r1, r2, r3, s1, s2, s3, bl, rfl, -⟩ := h
  rfl
end AR
theorem Ca.one {l : Launch} {E : Ev} {cc : ByteArray} {own : String} {fr lo k : Nat} {Ω : Nat → Om} (h : Ca l E cc own fr lo k Ω) {j k' : Nat} {wc : va_W} {lv : List (Nat × Value)} {st rest As : List Value} {pc index maxL fr' lo' : Nat} {y : MethodName} {bytes : ByteArray} {ret : Option FieldType} {ho : Option (List (Nat × Nat × Nat × Nat))} {post : Option Value → va_W → Prop} (hj : j + k' ≤ k) (hM : CtN l E y bytes maxL ret ho fr' lo' k' As wc post) (hk : LkN y bytes maxL ret ho As.length) (hl : Cond.methodLink own index y ∈ Tw) (hd : decode cc pc = .ok (.invokestatic index, 3)) (hst : st = As.reverse ++ rest) (hR : fr' + 1 ≤ fr ∧ 8 + (maxL + 11) + lo' ≤ lo) (hrm : (rest.map fun v => v.category).sum ≤ 8) (kk : ∀ (v : Option Value) (w : va_W), post v w → Ω (j + k') w lv (v.toList ++ rest) (pc + 3)) : Ω j wc lv st pc := by
  have h2 := h j k' [] wc [] lv st rest As pc index maxL fr' lo' y bytes ret ho post hj hM hk hl hd hst hR hrm (fun v w hp => by rw [List.append_nil]; exact kk v w hp)
  rw [List.append_nil] at h2
  exact h2
set_option maxRecDepth 100000 in
theorem t_about_0 {l : Launch} {E : Ev} (hst : l.stackTraces = false) {α : Nat → Nat} {σ : Sg} {hs : Nat → Sg} {cnt : Nat} {ks : Nat → Sg} {kd : Nat → Nat} {w : va_W} (hA : Ar E α σ hs cnt ks kd w)  : CtN l E yL_tryAbout method_8_code 3 (some FieldType.int) (some [(0, 5, 6, 20)]) 7 138 0 [.ref (α 0), .int (nI 0)] w (fun v9 w9 => v9 = some (.int (nI (sP σ))) ∧ Ar E α σ hs cnt ks kd w9) := by
  obtain ⟨od, sz, par, fre, pri, sls, drk, pla, tks, par1, fre1, pri1, sls1, drk1, pla1, tks1, sd, st, par3, fre3, pri3, sls3, drk3, pla3, tks3, f, f2, D, K, Z, tx, t1, t2, t3, r1, r2, r3, s1, s2, s3, bl, rfl, hW, hRC, hHC, hKC⟩ := hA
  have hwP := hW.P
  have hwA := hW.A
  have hwS := hW.S
  have h14 := hHC.1
  refine (wo_tryAbout (is := [0, 1, 2]) (c_X5_about__0 (hB := (α 0)) (b1 := (α 1)) (b2 := (α 2)) (b3 := (α 3)) (b4 := (α 4)) (b5 := (α 5)) (b6 := (α 6)) (b7 := (α 7)) (b8 := (α 8)) (b9 := (α 9)) (b10 := (α 10)) (c1 := (α 12)) (f := f) (σ := σ) (hR := hRC) (hW := hW)) (fun v u h => by obtain ⟨rfl, rfl⟩ := h; exact ⟨⟨_, rfl⟩, rfl⟩) rfl rfl rfl).mono ?_
  rintro v9 w9 ⟨u, ⟨rfl, rfl⟩, rfl⟩
  exact ⟨rfl, ⟨od, sz, par, fre, pri, sls, drk, pla, tks, par1, fre1, pri1, sls1, drk1, pla1, tks1, sd, st, par3, fre3, pri3, sls3, drk3, pla3, tks3, f, f2, D, K, Z, tx, t1, t2, t3, r1, r2, r3, s1, s2, s3, bl, rfl, hW, hRC, hHC, hKC⟩⟩
set_option maxRecDepth 100000 in
theorem t_about_1 {l : Launch} {E : Ev} (hst : l.stackTraces = false) {α : Nat → Nat} {σ : Sg} {hs : Nat → Sg} {cnt : Nat} {ks : Nat → Sg} {kd : Nat → Nat} {w : va_W} (hA : Ar E α σ hs cnt ks kd w)  : CtN l E yL_tryAbout method_8_code 3 (some FieldType.int) (some [(0, 5, 6, 20)]) 7 138 0 [.ref (α 0), .int (nI 1)] w (fun v9 w9 => v9 = some (.int (nI (sA σ))) ∧ Ar E α σ hs cnt ks kd w9) := by
  obtain ⟨od, sz, par, fre, pri, sls, drk, pla, tks, par1, fre1, pri1, sls1, drk1, pla1, tks1, sd, st, par3, fre3, pri3, sls3, drk3, pla3, tks3, f, f2, D, K, Z, tx, t1, t2, t3, r1, r2, r3, s1, s2, s3, bl, rfl, hW, hRC, hHC, hKC⟩ := hA
  have hwP := hW.P
  have hwA := hW.A
  have hwS := hW.S
  have h14 := hHC.1
  refine (wo_tryAbout (is := [0, 1, 2]) (c_X5_about__1 (hB := (α 0)) (b1 := (α 1)) (b2 := (α 2)) (b3 := (α 3)) (b4 := (α 4)) (b5 := (α 5)) (b6 := (α 6)) (b7 := (α 7)) (b8 := (α 8)) (b9 := (α 9)) (b10 := (α 10)) (c1 := (α 12)) (f := f) (σ := σ) (hR := hRC) (hW := hW)) (fun v u h => by obtain ⟨rfl, rfl⟩ := h; exact ⟨⟨_, rfl⟩, rfl⟩) rfl rfl rfl).mono ?_
  rintro v9 w9 ⟨u, ⟨rfl, rfl⟩, rfl⟩
  exact ⟨rfl, ⟨od, sz, par, fre, pri, sls, drk, pla, tks, par1, fre1, pri1, sls1, drk1, pla1, tks1, sd, st, par3, fre3, pri3, sls3, drk3, pla3, tks3, f, f2, D, K, Z, tx, t1, t2, t3, r1, r2, r3, s1, s2, s3, bl, rfl, hW, hRC, hHC, hKC⟩⟩
set_option maxRecDepth 100000 in
theorem t_about_2 {l : Launch} {E : Ev} (hst : l.stackTraces = false) {α : Nat → Nat} {σ : Sg} {hs : Nat → Sg} {cnt : Nat} {ks : Nat → Sg} {kd : Nat → Nat} {w : va_W} (hA : Ar E α σ hs cnt ks kd w)  : CtN l E yL_tryAbout method_8_code 3 (some FieldType.int) (some [(0, 5, 6, 20)]) 7 138 0 [.ref (α 0), .int (nI 2)] w (fun v9 w9 => v9 = some (.int (nI (sS σ))) ∧ Ar E α σ hs cnt ks kd w9) := by
  obtain ⟨od, sz, par, fre, pri, sls, drk, pla, tks, par1, fre1, pri1, sls1, drk1, pla1, tks1, sd, st, par3, fre3, pri3, sls3, drk3, pla3, tks3, f, f2, D, K, Z, tx, t1, t2, t3, r1, r2, r3, s1, s2, s3, bl, rfl, hW, hRC, hHC, hKC⟩ := hA
  have hwP := hW.P
  have hwA := hW.A
  have hwS := hW.S
  have h14 := hHC.1
  refine (wo_tryAbout (is := [0, 1, 2]) (c_X5_about__2 (hB := (α 0)) (b1 := (α 1)) (b2 := (α 2)) (b3 := (α 3)) (b4 := (α 4)) (b5 := (α 5)) (b6 := (α 6)) (b7 := (α 7)) (b8 := (α 8)) (b9 := (α 9)) (b10 := (α 10)) (c1 := (α 12)) (f := f) (σ := σ) (hR := hRC) (hW := hW)) (fun v u h => by obtain ⟨rfl, rfl⟩ := h; exact ⟨⟨_, rfl⟩, rfl⟩) rfl rfl rfl).mono ?_
  rintro v9 w9 ⟨u, ⟨rfl, rfl⟩, rfl⟩
  exact ⟨rfl, ⟨od, sz, par, fre, pri, sls, drk, pla, tks, par1, fre1, pri1, sls1, drk1, pla1, tks1, sd, st, par3, fre3, pri3, sls3, drk3, pla3, tks3, f, f2, D, K, Z, tx, t1, t2, t3, r1, r2, r3, s1, s2, s3, bl, rfl, hW, hRC, hHC, hKC⟩⟩
set_option maxRecDepth 100000 in
theorem t_about_3 {l : Launch} {E : Ev} (hst : l.stackTraces = false) {α : Nat → Nat} {σ : Sg} {hs : Nat → Sg} {cnt : Nat} {ks : Nat → Sg} {kd : Nat → Nat} {w : va_W} (hA : Ar E α σ hs cnt ks kd w)  : CtN l E yL_tryAbout method_8_code 3 (some FieldType.int) (some [(0, 5, 6, 20)]) 7 138 0 [.ref (α 0), .int (nI 3)] w (fun v9 w9 => v9 = some (.int (nI (dkS σ 20))) ∧ Ar E α σ hs cnt ks kd w9) := by
  obtain ⟨od, sz, par, fre, pri, sls, drk, pla, tks, par1, fre1, pri1, sls1, drk1, pla1, tks1, sd, st, par3, fre3, pri3, sls3, drk3, pla3, tks3, f, f2, D, K, Z, tx, t1, t2, t3, r1, r2, r3, s1, s2, s3, bl, rfl, hW, hRC, hHC, hKC⟩ := hA
  have hwP := hW.P
  have hwA := hW.A
  have hwS := hW.S
  have h14 := hHC.1
  refine (wo_tryAbout (is := [0, 1, 2, 19, 20, 21, 22, 23]) (c_X5_about__3 (hB := (α 0)) (b1 := (α 1)) (b2 := (α 2)) (b3 := (α 3)) (b4 := (α 4)) (b5 := (α 5)) (b6 := (α 6)) (b7 := (α 7)) (b8 := (α 8)) (b9 := (α 9)) (b10 := (α 10)) (c1 := (α 12)) (f := f) (σ := σ) (b11 := (α 11)) (sd := sd) (st := st) (e1 := (α 22)) (e2 := (α 23)) (e3 := (α 24)) (par := par3) (fre := fre3) (pri := pri3) (sls := sls3) (drk := drk3) (pla := pla3) (tks := tks3) (t1 := s1) (t2 := s2) (t3 := s3) (hR := hRC) (hW := hW)) (fun v u h => by obtain ⟨z0, z1, z2, z3, z4, z5, z6, z7, z8, z9, z10, z11, rfl, rfl⟩ := h; exact ⟨⟨_, rfl⟩, rfl⟩) rfl rfl rfl).mono ?_
  rintro v9 w9 ⟨u, ⟨z0, z1, z2, z3, z4, z5, z6, z7, z8, z9, z10, z11, rfl, rfl⟩, rfl⟩
  exact ⟨rfl, ⟨od, sz, par, fre, pri, sls, drk, pla, tks, par1, fre1, pri1, sls1, drk1, pla1, tks1, z0, z1, z2, z3, z4, z5, z6, z7, z8, f, f2, D, K, Z, tx, t1, t2, t3, r1, r2, r3, z9, z10, z11, bl, rfl, hW, hRC, hHC, hKC⟩⟩
set_option maxRecDepth 100000 in
theorem t_about_4 {l : Launch} {E : Ev} (hst : l.stackTraces = false) {α : Nat → Nat} {σ : Sg} {hs : Nat → Sg} {cnt : Nat} {ks : Nat → Sg} {kd : Nat → Nat} {w : va_W} (hA : Ar E α σ hs cnt ks kd w)  : CtN l E yL_tryAbout method_8_code 3 (some FieldType.int) (some [(0, 5, 6, 20)]) 7 138 0 [.ref (α 0), .int (nI 4)] w (fun v9 w9 => v9 = some (.int (nI (tkS σ 20))) ∧ Ar E α σ hs cnt ks kd w9) := by
  obtain ⟨od, sz, par, fre, pri, sls, drk, pla, tks, par1, fre1, pri1, sls1, drk1, pla1, tks1, sd, st, par3, fre3, pri3, sls3, drk3, pla3, tks3, f, f2, D, K, Z, tx, t1, t2, t3, r1, r2, r3, s1, s2, s3, bl, rfl, hW, hRC, hHC, hKC⟩ := hA
  have hwP := hW.P
  have hwA := hW.A
  have hwS := hW.S
  have h14 := hHC.1
  refine (wo_tryAbout (is := [0, 1, 2, 19, 20, 21, 22, 23]) (c_X5_about__4 (hB := (α 0)) (b1 := (α 1)) (b2 := (α 2)) (b3 := (α 3)) (b4 := (α 4)) (b5 := (α 5)) (b6 := (α 6)) (b7 := (α 7)) (b8 := (α 8)) (b9 := (α 9)) (b10 := (α 10)) (c1 := (α 12)) (f := f) (σ := σ) (b11 := (α 11)) (sd := sd) (st := st) (e1 := (α 22)) (e2 := (α 23)) (e3 := (α 24)) (par := par3) (fre := fre3) (pri := pri3) (sls := sls3) (drk := drk3) (pla := pla3) (tks := tks3) (t1 := s1) (t2 := s2) (t3 := s3) (hR := hRC) (hW := hW)) (fun v u h => by obtain ⟨z0, z1, z2, z3, z4, z5, z6, z7, z8, z9, z10, z11, rfl, rfl⟩ := h; exact ⟨⟨_, rfl⟩, rfl⟩) rfl rfl rfl).mono ?_
  rintro v9 w9 ⟨u, ⟨z0, z1, z2, z3, z4, z5, z6, z7, z8, z9, z10, z11, rfl, rfl⟩, rfl⟩
  exact ⟨rfl, ⟨od, sz, par, fre, pri, sls, drk, pla, tks, par1, fre1, pri1, sls1, drk1, pla1, tks1, z0, z1, z2, z3, z4, z5, z6, z7, z8, f, f2, D, K, Z, tx, t1, t2, t3, r1, r2, r3, z9, z10, z11, bl, rfl, hW, hRC, hHC, hKC⟩⟩
set_option maxRecDepth 100000 in
theorem t_about_5 {l : Launch} {E : Ev} (hst : l.stackTraces = false) {α : Nat → Nat} {σ : Sg} {hs : Nat → Sg} {cnt : Nat} {ks : Nat → Sg} {kd : Nat → Nat} {w : va_W} (hA : Ar E α σ hs cnt ks kd w)  : CtN l E yL_tryAbout method_8_code 3 (some FieldType.int) (some [(0, 5, 6, 20)]) 7 138 0 [.ref (α 0), .int (nI 5)] w (fun v9 w9 => v9 = some (.int (nI (unlN σ 20))) ∧ Ar E α σ hs cnt ks kd w9) := by
  obtain ⟨od, sz, par, fre, pri, sls, drk, pla, tks, par1, fre1, pri1, sls1, drk1, pla1, tks1, sd, st, par3, fre3, pri3, sls3, drk3, pla3, tks3, f, f2, D, K, Z, tx, t1, t2, t3, r1, r2, r3, s1, s2, s3, bl, rfl, hW, hRC, hHC, hKC⟩ := hA
  have hwP := hW.P
  have hwA := hW.A
  have hwS := hW.S
  have h14 := hHC.1
  refine (wo_tryAbout (is := [0, 1, 2, 11, 12, 13, 14, 24]) (c_X5_about__5 (hB := (α 0)) (b1 := (α 1)) (b2 := (α 2)) (b3 := (α 3)) (b4 := (α 4)) (b5 := (α 5)) (b6 := (α 6)) (b7 := (α 7)) (b8 := (α 8)) (b9 := (α 9)) (b10 := (α 10)) (c1 := (α 12)) (f := f) (σ := σ) (e1 := (α 16)) (e2 := (α 17)) (e3 := (α 18)) (par := par) (fre := fre) (pri := pri) (sls := sls) (drk := drk) (pla := pla) (tks := tks) (t1 := t1) (t2 := t2) (t3 := t3) (bl := bl) (hR := hRC) (hW := hW)) (fun v u h => by obtain ⟨z0, z1, z2, z3, z4, z5, z6, z7, z8, z9, z10, rfl, rfl⟩ := h; exact ⟨⟨_, rfl⟩, rfl⟩) rfl rfl rfl).mono ?_
  rintro v9 w9 ⟨u, ⟨z0, z1, z2, z3, z4, z5, z6, z7, z8, z9, z10, rfl, rfl⟩, rfl⟩
  exact ⟨rfl, ⟨od, sz, z0, z1, z2, z3, z4, z5, z6, par1, fre1, pri1, sls1, drk1, pla1, tks1, sd, st, par3, fre3, pri3, sls3, drk3, pla3, tks3, f, f2, D, K, Z, tx, z7, z8, z9, r1, r2, r3, s1, s2, s3, z10, rfl, hW, hRC, hHC, hKC⟩⟩
set_option maxRecDepth 100000 in
theorem t_about_6 {l : Launch} {E : Ev} (hst : l.stackTraces = false) {α : Nat → Nat} {σ : Sg} {hs : Nat → Sg} {cnt : Nat} {ks : Nat → Sg} {kd : Nat → Nat} {w : va_W} (hA : Ar E α σ hs cnt ks kd w)  : CtN l E yL_tryAbout method_8_code 3 (some FieldType.int) (some [(0, 5, 6, 20)]) 7 138 0 [.ref (α 0), .int (nI 6)] w (fun v9 w9 => v9 = some (.int (nI (usN σ (sS σ)))) ∧ Ar E α σ hs cnt ks kd w9) := by
  obtain ⟨od, sz, par, fre, pri, sls, drk, pla, tks, par1, fre1, pri1, sls1, drk1, pla1, tks1, sd, st, par3, fre3, pri3, sls3, drk3, pla3, tks3, f, f2, D, K, Z, tx, t1, t2, t3, r1, r2, r3, s1, s2, s3, bl, rfl, hW, hRC, hHC, hKC⟩ := hA
  have hwP := hW.P
  have hwA := hW.A
  have hwS := hW.S
  have h14 := hHC.1
  refine (wo_tryAbout (is := [0, 1, 2, 11, 12, 13, 14]) (c_X5_about__6 (hB := (α 0)) (b1 := (α 1)) (b2 := (α 2)) (b3 := (α 3)) (b4 := (α 4)) (b5 := (α 5)) (b6 := (α 6)) (b7 := (α 7)) (b8 := (α 8)) (b9 := (α 9)) (b10 := (α 10)) (c1 := (α 12)) (f := f) (σ := σ) (e1 := (α 16)) (e2 := (α 17)) (e3 := (α 18)) (par := par) (fre := fre) (pri := pri) (sls := sls) (drk := drk) (pla := pla) (tks := tks) (t1 := t1) (t2 := t2) (t3 := t3) (hR := hRC) (hW := hW)) (fun v u h => by obtain ⟨z0, z1, z2, z3, z4, z5, z6, z7, z8, z9, rfl, rfl⟩ := h; exact ⟨⟨_, rfl⟩, rfl⟩) rfl rfl rfl).mono ?_
  rintro v9 w9 ⟨u, ⟨z0, z1, z2, z3, z4, z5, z6, z7, z8, z9, rfl, rfl⟩, rfl⟩
  exact ⟨rfl, ⟨od, sz, z0, z1, z2, z3, z4, z5, z6, par1, fre1, pri1, sls1, drk1, pla1, tks1, sd, st, par3, fre3, pri3, sls3, drk3, pla3, tks3, f, f2, D, K, Z, tx, z7, z8, z9, r1, r2, r3, s1, s2, s3, bl, rfl, hW, hRC, hHC, hKC⟩⟩
set_option maxRecDepth 100000 in
theorem t_about_no {l : Launch} {E : Ev} (hst : l.stackTraces = false) {α : Nat → Nat} {σ : Sg} {hs : Nat → Sg} {cnt : Nat} {ks : Nat → Sg} {kd : Nat → Nat} {w : va_W} (hA : Ar E α σ hs cnt ks kd w) {x : Int32} (hx : ¬ vI x 7) : CtN l E yL_tryAbout method_8_code 3 (some FieldType.int) (some [(0, 5, 6, 20)]) 7 138 1 [.ref (α 0), .int x] w (fun v9 w9 => v9 = some (.int (-9999002)) ∧ Ar E α σ hs cnt ks kd w9) := by
  obtain ⟨od, sz, par, fre, pri, sls, drk, pla, tks, par1, fre1, pri1, sls1, drk1, pla1, tks1, sd, st, par3, fre3, pri3, sls3, drk3, pla3, tks3, f, f2, D, K, Z, tx, t1, t2, t3, r1, r2, r3, s1, s2, s3, bl, rfl, hW, hRC, hHC, hKC⟩ := hA
  have hwP := hW.P
  have hwA := hW.A
  have hwS := hW.S
  have h14 := hHC.1
  refine (wn_tryAbout_A (is := [0, 1, 2]) (c_X5_about__t (hst := hst) (hB := (α 0)) (b1 := (α 1)) (b2 := (α 2)) (b3 := (α 3)) (b4 := (α 4)) (b5 := (α 5)) (b6 := (α 6)) (b7 := (α 7)) (b8 := (α 8)) (b9 := (α 9)) (b10 := (α 10)) (c1 := (α 12)) (f := f) (σ := σ) (w := x) (hR := hRC) (hW := hW) (hx := hx)) rfl rfl rfl).mono ?_
  rintro v9 w9 ⟨u, rfl, rfl, rfl⟩
  exact ⟨rfl, ⟨od, sz, par, fre, pri, sls, drk, pla, tks, par1, fre1, pri1, sls1, drk1, pla1, tks1, sd, st, par3, fre3, pri3, sls3, drk3, pla3, tks3, f, f2, D, K, Z, tx, t1, t2, t3, r1, r2, r3, s1, s2, s3, bl, rfl, hW, hRC, hHC, hKC⟩⟩
set_option maxRecDepth 100000 in
theorem t_played {l : Launch} {E : Ev} (hst : l.stackTraces = false) {α : Nat → Nat} {σ : Sg} {hs : Nat → Sg} {cnt : Nat} {ks : Nat → Sg} {kd : Nat → Nat} {w : va_W} (hA : Ar E α σ hs cnt ks kd w) {n p : Nat}(hn : n < 20)(hp : p < sP σ) : CtN l E yL_tryPlayed method_9_code 4 (some FieldType.int) (some [(0, 6, 7, 13)]) 8 133 0 [.ref (α 0), .int (nI n), .int (nI p)] w (fun v9 w9 => v9 = some (.int (mI (pT σ n p))) ∧ Ar E α σ hs cnt ks kd w9) := by
  obtain ⟨od, sz, par, fre, pri, sls, drk, pla, tks, par1, fre1, pri1, sls1, drk1, pla1, tks1, sd, st, par3, fre3, pri3, sls3, drk3, pla3, tks3, f, f2, D, K, Z, tx, t1, t2, t3, r1, r2, r3, s1, s2, s3, bl, rfl, hW, hRC, hHC, hKC⟩ := hA
  have hwP := hW.P
  have hwA := hW.A
  have hwS := hW.S
  have h14 := hHC.1
  refine (wo_tryPlayed (is := [0, 1, 2, 11, 12, 13, 14]) (c_X5_played (hB := (α 0)) (b1 := (α 1)) (b2 := (α 2)) (b3 := (α 3)) (b4 := (α 4)) (b5 := (α 5)) (b6 := (α 6)) (b7 := (α 7)) (b8 := (α 8)) (b9 := (α 9)) (b10 := (α 10)) (c1 := (α 12)) (f := f) (σ := σ) (e1 := (α 16)) (e2 := (α 17)) (e3 := (α 18)) (par := par) (fre := fre) (pri := pri) (sls := sls) (drk := drk) (pla := pla) (tks := tks) (t1 := t1) (t2 := t2) (t3 := t3) (n := n) (p := p) (hR := hRC) (hW := hW) (hn := (by omega)) (hp := (by omega))) (fun v u h => by obtain ⟨z0, z1, z2, z3, z4, z5, z6, z7, z8, z9, rfl, rfl⟩ := h; exact ⟨⟨_, rfl⟩, rfl⟩) rfl rfl rfl).mono ?_
  rintro v9 w9 ⟨u, ⟨z0, z1, z2, z3, z4, z5, z6, z7, z8, z9, rfl, rfl⟩, rfl⟩
  exact ⟨rfl, ⟨od, sz, z0, z1, z2, z3, z4, z5, z6, par1, fre1, pri1, sls1, drk1, pla1, tks1, sd, st, par3, fre3, pri3, sls3, drk3, pla3, tks3, f, f2, D, K, Z, tx, z7, z8, z9, r1, r2, r3, s1, s2, s3, bl, rfl, hW, hRC, hHC, hKC⟩⟩
set_option maxRecDepth 100000 in
theorem t_played_na {l : Launch} {E : Ev} (hst : l.stackTraces = false) {α : Nat → Nat} {σ : Sg} {hs : Nat → Sg} {cnt : Nat} {ks : Nat → Sg} {kd : Nat → Nat} {w : va_W} (hA : Ar E α σ hs cnt ks kd w) {x y : Int32}(hx : ¬ vI x 20) : CtN l E yL_tryPlayed method_9_code 4 (some FieldType.int) (some [(0, 6, 7, 13)]) 8 133 1 [.ref (α 0), .int x, .int y] w (fun v9 w9 => v9 = some (.int (-9999001)) ∧ Ar E α σ hs cnt ks kd w9) := by
  obtain ⟨od, sz, par, fre, pri, sls, drk, pla, tks, par1, fre1, pri1, sls1, drk1, pla1, tks1, sd, st, par3, fre3, pri3, sls3, drk3, pla3, tks3, f, f2, D, K, Z, tx, t1, t2, t3, r1, r2, r3, s1, s2, s3, bl, rfl, hW, hRC, hHC, hKC⟩ := hA
  have hwP := hW.P
  have hwA := hW.A
  have hwS := hW.S
  have h14 := hHC.1
  refine (wn_tryPlayed_B (is := [0, 1, 2]) (c_X5_played__ta (hst := hst) (hB := (α 0)) (b1 := (α 1)) (b2 := (α 2)) (b3 := (α 3)) (b4 := (α 4)) (b5 := (α 5)) (b6 := (α 6)) (b7 := (α 7)) (b8 := (α 8)) (b9 := (α 9)) (b10 := (α 10)) (c1 := (α 12)) (f := f) (σ := σ) (n := x) (p := y) (hR := hRC) (hW := hW) (hx := hx)) rfl rfl rfl).mono ?_
  rintro v9 w9 ⟨u, rfl, rfl, rfl⟩
  exact ⟨rfl, ⟨od, sz, par, fre, pri, sls, drk, pla, tks, par1, fre1, pri1, sls1, drk1, pla1, tks1, sd, st, par3, fre3, pri3, sls3, drk3, pla3, tks3, f, f2, D, K, Z, tx, t1, t2, t3, r1, r2, r3, s1, s2, s3, bl, rfl, hW, hRC, hHC, hKC⟩⟩
set_option maxRecDepth 100000 in
theorem t_played_nb {l : Launch} {E : Ev} (hst : l.stackTraces = false) {α : Nat → Nat} {σ : Sg} {hs : Nat → Sg} {cnt : Nat} {ks : Nat → Sg} {kd : Nat → Nat} {w : va_W} (hA : Ar E α σ hs cnt ks kd w) {n : Nat}{x : Int32}(hn : n < 20)(hx : ¬ vI x (sP σ)) : CtN l E yL_tryPlayed method_9_code 4 (some FieldType.int) (some [(0, 6, 7, 13)]) 8 133 1 [.ref (α 0), .int (nI n), .int x] w (fun v9 w9 => v9 = some (.int (-9999001)) ∧ Ar E α σ hs cnt ks kd w9) := by
  obtain ⟨od, sz, par, fre, pri, sls, drk, pla, tks, par1, fre1, pri1, sls1, drk1, pla1, tks1, sd, st, par3, fre3, pri3, sls3, drk3, pla3, tks3, f, f2, D, K, Z, tx, t1, t2, t3, r1, r2, r3, s1, s2, s3, bl, rfl, hW, hRC, hHC, hKC⟩ := hA
  have hwP := hW.P
  have hwA := hW.A
  have hwS := hW.S
  have h14 := hHC.1
  refine (wn_tryPlayed_B (is := [0, 1, 2]) (c_X5_played__tb (hst := hst) (hB := (α 0)) (b1 := (α 1)) (b2 := (α 2)) (b3 := (α 3)) (b4 := (α 4)) (b5 := (α 5)) (b6 := (α 6)) (b7 := (α 7)) (b8 := (α 8)) (b9 := (α 9)) (b10 := (α 10)) (c1 := (α 12)) (f := f) (σ := σ) (n := n) (p := x) (hR := hRC) (hW := hW) (h1 := (by omega)) (hx := hx)) rfl rfl rfl).mono ?_
  rintro v9 w9 ⟨u, rfl, rfl, rfl⟩
  exact ⟨rfl, ⟨od, sz, par, fre, pri, sls, drk, pla, tks, par1, fre1, pri1, sls1, drk1, pla1, tks1, sd, st, par3, fre3, pri3, sls3, drk3, pla3, tks3, f, f2, D, K, Z, tx, t1, t2, t3, r1, r2, r3, s1, s2, s3, bl, rfl, hW, hRC, hHC, hKC⟩⟩
set_option maxRecDepth 100000 in
theorem t_bill_0 {l : Launch} {E : Ev} (hst : l.stackTraces = false) {α : Nat → Nat} {σ : Sg} {hs : Nat → Sg} {cnt : Nat} {ks : Nat → Sg} {kd : Nat → Nat} {w : va_W} (hA : Ar E α σ hs cnt ks kd w) {n p : Nat}(hn : n < 20)(hp : p < sP σ) : CtN l E yL_tryBill method_10_code 5 (some FieldType.int) (some [(0, 7, 8, 13), (0, 7, 13, 20)]) 8 134 0 [.ref (α 0), .int (nI n), .int (nI p), .int (nI 0)] w (fun v9 w9 => v9 = some (.int (mI (sR σ p n))) ∧ Ar E α σ hs cnt ks kd w9) := by
  obtain ⟨od, sz, par, fre, pri, sls, drk, pla, tks, par1, fre1, pri1, sls1, drk1, pla1, tks1, sd, st, par3, fre3, pri3, sls3, drk3, pla3, tks3, f, f2, D, K, Z, tx, t1, t2, t3, r1, r2, r3, s1, s2, s3, bl, rfl, hW, hRC, hHC, hKC⟩ := hA
  have hwP := hW.P
  have hwA := hW.A
  have hwS := hW.S
  have h14 := hHC.1
  refine (wo_tryBill (is := [0, 1, 2, 11, 12, 13, 14]) (c_X5_bill__0 (hB := (α 0)) (b1 := (α 1)) (b2 := (α 2)) (b3 := (α 3)) (b4 := (α 4)) (b5 := (α 5)) (b6 := (α 6)) (b7 := (α 7)) (b8 := (α 8)) (b9 := (α 9)) (b10 := (α 10)) (c1 := (α 12)) (f := f) (σ := σ) (e1 := (α 16)) (e2 := (α 17)) (e3 := (α 18)) (par := par) (fre := fre) (pri := pri) (sls := sls) (drk := drk) (pla := pla) (tks := tks) (t1 := t1) (t2 := t2) (t3 := t3) (n := n) (p := p) (hR := hRC) (hW := hW) (hn := (by omega)) (hp := (by omega))) (fun v u h => by obtain ⟨z0, z1, z2, z3, z4, z5, z6, z7, z8, z9, rfl, rfl⟩ := h; exact ⟨⟨_, rfl⟩, rfl⟩) rfl rfl rfl).mono ?_
  rintro v9 w9 ⟨u, ⟨z0, z1, z2, z3, z4, z5, z6, z7, z8, z9, rfl, rfl⟩, rfl⟩
  exact ⟨rfl, ⟨od, sz, z0, z1, z2, z3, z4, z5, z6, par1, fre1, pri1, sls1, drk1, pla1, tks1, sd, st, par3, fre3, pri3, sls3, drk3, pla3, tks3, f, f2, D, K, Z, tx, z7, z8, z9, r1, r2, r3, s1, s2, s3, bl, rfl, hW, hRC, hHC, hKC⟩⟩
set_option maxRecDepth 100000 in
theorem t_bill_1 {l : Launch} {E : Ev} (hst : l.stackTraces = false) {α : Nat → Nat} {σ : Sg} {hs : Nat → Sg} {cnt : Nat} {ks : Nat → Sg} {kd : Nat → Nat} {w : va_W} (hA : Ar E α σ hs cnt ks kd w) {n p : Nat}(hn : n < 20)(hp : p < sP σ) : CtN l E yL_tryBill method_10_code 5 (some FieldType.int) (some [(0, 7, 8, 13), (0, 7, 13, 20)]) 8 134 0 [.ref (α 0), .int (nI n), .int (nI p), .int (nI 1)] w (fun v9 w9 => v9 = some (.int (mI (T σ n p))) ∧ Ar E α σ hs cnt ks kd w9) := by
  obtain ⟨od, sz, par, fre, pri, sls, drk, pla, tks, par1, fre1, pri1, sls1, drk1, pla1, tks1, sd, st, par3, fre3, pri3, sls3, drk3, pla3, tks3, f, f2, D, K, Z, tx, t1, t2, t3, r1, r2, r3, s1, s2, s3, bl, rfl, hW, hRC, hHC, hKC⟩ := hA
  have hwP := hW.P
  have hwA := hW.A
  have hwS := hW.S
  have h14 := hHC.1
  refine (wo_tryBill (is := [0, 1, 2, 11, 12, 13, 14]) (c_X5_bill__1 (hB := (α 0)) (b1 := (α 1)) (b2 := (α 2)) (b3 := (α 3)) (b4 := (α 4)) (b5 := (α 5)) (b6 := (α 6)) (b7 := (α 7)) (b8 := (α 8)) (b9 := (α 9)) (b10 := (α 10)) (c1 := (α 12)) (f := f) (σ := σ) (e1 := (α 16)) (e2 := (α 17)) (e3 := (α 18)) (par := par) (fre := fre) (pri := pri) (sls := sls) (drk := drk) (pla := pla) (tks := tks) (t1 := t1) (t2 := t2) (t3 := t3) (n := n) (p := p) (hR := hRC) (hW := hW) (hn := (by omega)) (hp := (by omega))) (fun v u h => by obtain ⟨z0, z1, z2, z3, z4, z5, z6, z7, z8, z9, rfl, rfl⟩ := h; exact ⟨⟨_, rfl⟩, rfl⟩) rfl rfl rfl).mono ?_
  rintro v9 w9 ⟨u, ⟨z0, z1, z2, z3, z4, z5, z6, z7, z8, z9, rfl, rfl⟩, rfl⟩
  exact ⟨rfl, ⟨od, sz, z0, z1, z2, z3, z4, z5, z6, par1, fre1, pri1, sls1, drk1, pla1, tks1, sd, st, par3, fre3, pri3, sls3, drk3, pla3, tks3, f, f2, D, K, Z, tx, z7, z8, z9, r1, r2, r3, s1, s2, s3, bl, rfl, hW, hRC, hHC, hKC⟩⟩
set_option maxRecDepth 100000 in
theorem t_bill_2 {l : Launch} {E : Ev} (hst : l.stackTraces = false) {α : Nat → Nat} {σ : Sg} {hs : Nat → Sg} {cnt : Nat} {ks : Nat → Sg} {kd : Nat → Nat} {w : va_W} (hA : Ar E α σ hs cnt ks kd w) {n p : Nat}(hn : n < 20)(hp : p < sP σ) : CtN l E yL_tryBill method_10_code 5 (some FieldType.int) (some [(0, 7, 8, 13), (0, 7, 13, 20)]) 8 134 0 [.ref (α 0), .int (nI n), .int (nI p), .int (nI 2)] w (fun v9 w9 => v9 = some (.int (nI (Wy σ n p))) ∧ Ar E α σ hs cnt ks kd w9) := by
  obtain ⟨od, sz, par, fre, pri, sls, drk, pla, tks, par1, fre1, pri1, sls1, drk1, pla1, tks1, sd, st, par3, fre3, pri3, sls3, drk3, pla3, tks3, f, f2, D, K, Z, tx, t1, t2, t3, r1, r2, r3, s1, s2, s3, bl, rfl, hW, hRC, hHC, hKC⟩ := hA
  have hwP := hW.P
  have hwA := hW.A
  have hwS := hW.S
  have h14 := hHC.1
  refine (wo_tryBill (is := [0, 1, 2, 11, 12, 13, 14]) (c_X5_bill__2 (hB := (α 0)) (b1 := (α 1)) (b2 := (α 2)) (b3 := (α 3)) (b4 := (α 4)) (b5 := (α 5)) (b6 := (α 6)) (b7 := (α 7)) (b8 := (α 8)) (b9 := (α 9)) (b10 := (α 10)) (c1 := (α 12)) (f := f) (σ := σ) (e1 := (α 16)) (e2 := (α 17)) (e3 := (α 18)) (par := par) (fre := fre) (pri := pri) (sls := sls) (drk := drk) (pla := pla) (tks := tks) (t1 := t1) (t2 := t2) (t3 := t3) (n := n) (p := p) (hR := hRC) (hW := hW) (hn := (by omega)) (hp := (by omega))) (fun v u h => by obtain ⟨z0, z1, z2, z3, z4, z5, z6, z7, z8, z9, rfl, rfl⟩ := h; exact ⟨⟨_, rfl⟩, rfl⟩) rfl rfl rfl).mono ?_
  rintro v9 w9 ⟨u, ⟨z0, z1, z2, z3, z4, z5, z6, z7, z8, z9, rfl, rfl⟩, rfl⟩
  exact ⟨rfl, ⟨od, sz, z0, z1, z2, z3, z4, z5, z6, par1, fre1, pri1, sls1, drk1, pla1, tks1, sd, st, par3, fre3, pri3, sls3, drk3, pla3, tks3, f, f2, D, K, Z, tx, z7, z8, z9, r1, r2, r3, s1, s2, s3, bl, rfl, hW, hRC, hHC, hKC⟩⟩
set_option maxRecDepth 100000 in
theorem t_bill_3 {l : Launch} {E : Ev} (hst : l.stackTraces = false) {α : Nat → Nat} {σ : Sg} {hs : Nat → Sg} {cnt : Nat} {ks : Nat → Sg} {kd : Nat → Nat} {w : va_W} (hA : Ar E α σ hs cnt ks kd w) {n p : Nat}(hn : n < 20)(hp : p < sP σ) : CtN l E yL_tryBill method_10_code 5 (some FieldType.int) (some [(0, 7, 8, 13), (0, 7, 13, 20)]) 8 134 0 [.ref (α 0), .int (nI n), .int (nI p), .int (nI 3)] w (fun v9 w9 => v9 = some (.int (nI (slC σ n p (sS σ)))) ∧ Ar E α σ hs cnt ks kd w9) := by
  obtain ⟨od, sz, par, fre, pri, sls, drk, pla, tks, par1, fre1, pri1, sls1, drk1, pla1, tks1, sd, st, par3, fre3, pri3, sls3, drk3, pla3, tks3, f, f2, D, K, Z, tx, t1, t2, t3, r1, r2, r3, s1, s2, s3, bl, rfl, hW, hRC, hHC, hKC⟩ := hA
  have hwP := hW.P
  have hwA := hW.A
  have hwS := hW.S
  have h14 := hHC.1
  refine (wo_tryBill (is := [0, 1, 2, 11, 12, 13, 14]) (c_X5_bill__3 (hB := (α 0)) (b1 := (α 1)) (b2 := (α 2)) (b3 := (α 3)) (b4 := (α 4)) (b5 := (α 5)) (b6 := (α 6)) (b7 := (α 7)) (b8 := (α 8)) (b9 := (α 9)) (b10 := (α 10)) (c1 := (α 12)) (f := f) (σ := σ) (e1 := (α 16)) (e2 := (α 17)) (e3 := (α 18)) (par := par) (fre := fre) (pri := pri) (sls := sls) (drk := drk) (pla := pla) (tks := tks) (t1 := t1) (t2 := t2) (t3 := t3) (n := n) (p := p) (hR := hRC) (hW := hW) (hn := (by omega)) (hp := (by omega))) (fun v u h => by obtain ⟨z0, z1, z2, z3, z4, z5, z6, z7, z8, z9, rfl, rfl⟩ := h; exact ⟨⟨_, rfl⟩, rfl⟩) rfl rfl rfl).mono ?_
  rintro v9 w9 ⟨u, ⟨z0, z1, z2, z3, z4, z5, z6, z7, z8, z9, rfl, rfl⟩, rfl⟩
  exact ⟨rfl, ⟨od, sz, z0, z1, z2, z3, z4, z5, z6, par1, fre1, pri1, sls1, drk1, pla1, tks1, sd, st, par3, fre3, pri3, sls3, drk3, pla3, tks3, f, f2, D, K, Z, tx, z7, z8, z9, r1, r2, r3, s1, s2, s3, bl, rfl, hW, hRC, hHC, hKC⟩⟩
set_option maxRecDepth 100000 in
theorem t_bill_na {l : Launch} {E : Ev} (hst : l.stackTraces = false) {α : Nat → Nat} {σ : Sg} {hs : Nat → Sg} {cnt : Nat} {ks : Nat → Sg} {kd : Nat → Nat} {w : va_W} (hA : Ar E α σ hs cnt ks kd w) {x y z : Int32}(hx : ¬ vI x 20) : CtN l E yL_tryBill method_10_code 5 (some FieldType.int) (some [(0, 7, 8, 13), (0, 7, 13, 20)]) 8 134 1 [.ref (α 0), .int x, .int y, .int z] w (fun v9 w9 => v9 = some (.int (-9999001)) ∧ Ar E α σ hs cnt ks kd w9) := by
  obtain ⟨od, sz, par, fre, pri, sls, drk, pla, tks, par1, fre1, pri1, sls1, drk1, pla1, tks1, sd, st, par3, fre3, pri3, sls3, drk3, pla3, tks3, f, f2, D, K, Z, tx, t1, t2, t3, r1, r2, r3, s1, s2, s3, bl, rfl, hW, hRC, hHC, hKC⟩ := hA
  have hwP := hW.P
  have hwA := hW.A
  have hwS := hW.S
  have h14 := hHC.1
  refine (wn_tryBill_B (is := [0, 1, 2]) (c_X5_bill__ta (hst := hst) (hB := (α 0)) (b1 := (α 1)) (b2 := (α 2)) (b3 := (α 3)) (b4 := (α 4)) (b5 := (α 5)) (b6 := (α 6)) (b7 := (α 7)) (b8 := (α 8)) (b9 := (α 9)) (b10 := (α 10)) (c1 := (α 12)) (f := f) (σ := σ) (n := x) (p := y) (w := z) (hR := hRC) (hW := hW) (hx := hx)) rfl rfl rfl).mono ?_
  rintro v9 w9 ⟨u, rfl, rfl, rfl⟩
  exact ⟨rfl, ⟨od, sz, par, fre, pri, sls, drk, pla, tks, par1, fre1, pri1, sls1, drk1, pla1, tks1, sd, st, par3, fre3, pri3, sls3, drk3, pla3, tks3, f, f2, D, K, Z, tx, t1, t2, t3, r1, r2, r3, s1, s2, s3, bl, rfl, hW, hRC, hHC, hKC⟩⟩
set_option maxRecDepth 100000 in
theorem t_bill_nc {l : Launch} {E : Ev} (hst : l.stackTraces = false) {α : Nat → Nat} {σ : Sg} {hs : Nat → Sg} {cnt : Nat} {ks : Nat → Sg} {kd : Nat → Nat} {w : va_W} (hA : Ar E α σ hs cnt ks kd w) {n p : Nat}{x : Int32}(hn : n < 20)(hp : p < sP σ)(hx : ¬ vI x 4) : CtN l E yL_tryBill method_10_code 5 (some FieldType.int) (some [(0, 7, 8, 13), (0, 7, 13, 20)]) 8 134 1 [.ref (α 0), .int (nI n), .int (nI p), .int x] w (fun v9 w9 => v9 = some (.int (-9999002)) ∧ Ar E α σ hs cnt ks kd w9) := by
  obtain ⟨od, sz, par, fre, pri, sls, drk, pla, tks, par1, fre1, pri1, sls1, drk1, pla1, tks1, sd, st, par3, fre3, pri3, sls3, drk3, pla3, tks3, f, f2, D, K, Z, tx, t1, t2, t3, r1, r2, r3, s1, s2, s3, bl, rfl, hW, hRC, hHC, hKC⟩ := hA
  have hwP := hW.P
  have hwA := hW.A
  have hwS := hW.S
  have h14 := hHC.1
  refine (wn_tryBill_A (is := [0, 1, 2, 11, 12, 13, 14]) (c_X5_bill__tc (hst := hst) (hB := (α 0)) (b1 := (α 1)) (b2 := (α 2)) (b3 := (α 3)) (b4 := (α 4)) (b5 := (α 5)) (b6 := (α 6)) (b7 := (α 7)) (b8 := (α 8)) (b9 := (α 9)) (b10 := (α 10)) (c1 := (α 12)) (f := f) (σ := σ) (e1 := (α 16)) (e2 := (α 17)) (e3 := (α 18)) (par := par) (fre := fre) (pri := pri) (sls := sls) (drk := drk) (pla := pla) (tks := tks) (t1 := t1) (t2 := t2) (t3 := t3) (n := n) (p := p) (w := x) (hR := hRC) (hW := hW) (hn := (by omega)) (hp := (by omega)) (hx := hx)) rfl rfl rfl).mono ?_
  rintro v9 w9 ⟨u, ⟨z0, z1, z2, z3, z4, z5, z6, z7, z8, z9, rfl⟩, rfl, rfl⟩
  exact ⟨rfl, ⟨od, sz, z0, z1, z2, z3, z4, z5, z6, par1, fre1, pri1, sls1, drk1, pla1, tks1, sd, st, par3, fre3, pri3, sls3, drk3, pla3, tks3, f, f2, D, K, Z, tx, z7, z8, z9, r1, r2, r3, s1, s2, s3, bl, rfl, hW, hRC, hHC, hKC⟩⟩
set_option maxRecDepth 100000 in
theorem t_night_0 {l : Launch} {E : Ev} (hst : l.stackTraces = false) {α : Nat → Nat} {σ : Sg} {hs : Nat → Sg} {cnt : Nat} {ks : Nat → Sg} {kd : Nat → Nat} {w : va_W} (hA : Ar E α σ hs cnt ks kd w) {n : Nat}(hn : n < 20) : CtN l E yL_tryNight method_11_code 4 (some FieldType.int) (some [(0, 6, 7, 13), (0, 6, 11, 20)]) 8 132 0 [.ref (α 0), .int (nI n), .int (nI 0)] w (fun v9 w9 => v9 = some (.int (nI (dk σ n))) ∧ Ar E α σ hs cnt ks kd w9) := by
  obtain ⟨od, sz, par, fre, pri, sls, drk, pla, tks, par1, fre1, pri1, sls1, drk1, pla1, tks1, sd, st, par3, fre3, pri3, sls3, drk3, pla3, tks3, f, f2, D, K, Z, tx, t1, t2, t3, r1, r2, r3, s1, s2, s3, bl, rfl, hW, hRC, hHC, hKC⟩ := hA
  have hwP := hW.P
  have hwA := hW.A
  have hwS := hW.S
  have h14 := hHC.1
  refine (wo_tryNight (is := [0, 1, 2, 11, 12, 13, 14]) (c_X5_night__0 (hB := (α 0)) (b1 := (α 1)) (b2 := (α 2)) (b3 := (α 3)) (b4 := (α 4)) (b5 := (α 5)) (b6 := (α 6)) (b7 := (α 7)) (b8 := (α 8)) (b9 := (α 9)) (b10 := (α 10)) (c1 := (α 12)) (f := f) (σ := σ) (e1 := (α 16)) (e2 := (α 17)) (e3 := (α 18)) (par := par) (fre := fre) (pri := pri) (sls := sls) (drk := drk) (pla := pla) (tks := tks) (t1 := t1) (t2 := t2) (t3 := t3) (n := n) (hR := hRC) (hW := hW) (hn := (by omega))) (fun v u h => by obtain ⟨z0, z1, z2, z3, z4, z5, z6, z7, z8, z9, rfl, rfl⟩ := h; exact ⟨⟨_, rfl⟩, rfl⟩) rfl rfl rfl).mono ?_
  rintro v9 w9 ⟨u, ⟨z0, z1, z2, z3, z4, z5, z6, z7, z8, z9, rfl, rfl⟩, rfl⟩
  exact ⟨rfl, ⟨od, sz, z0, z1, z2, z3, z4, z5, z6, par1, fre1, pri1, sls1, drk1, pla1, tks1, sd, st, par3, fre3, pri3, sls3, drk3, pla3, tks3, f, f2, D, K, Z, tx, z7, z8, z9, r1, r2, r3, s1, s2, s3, bl, rfl, hW, hRC, hHC, hKC⟩⟩
set_option maxRecDepth 100000 in
theorem t_night_1 {l : Launch} {E : Ev} (hst : l.stackTraces = false) {α : Nat → Nat} {σ : Sg} {hs : Nat → Sg} {cnt : Nat} {ks : Nat → Sg} {kd : Nat → Nat} {w : va_W} (hA : Ar E α σ hs cnt ks kd w) {n : Nat}(hn : n < 20) : CtN l E yL_tryNight method_11_code 4 (some FieldType.int) (some [(0, 6, 7, 13), (0, 6, 11, 20)]) 8 132 0 [.ref (α 0), .int (nI n), .int (nI 1)] w (fun v9 w9 => v9 = some (.int (nI (tak σ n))) ∧ Ar E α σ hs cnt ks kd w9) := by
  obtain ⟨od, sz, par, fre, pri, sls, drk, pla, tks, par1, fre1, pri1, sls1, drk1, pla1, tks1, sd, st, par3, fre3, pri3, sls3, drk3, pla3, tks3, f, f2, D, K, Z, tx, t1, t2, t3, r1, r2, r3, s1, s2, s3, bl, rfl, hW, hRC, hHC, hKC⟩ := hA
  have hwP := hW.P
  have hwA := hW.A
  have hwS := hW.S
  have h14 := hHC.1
  refine (wo_tryNight (is := [0, 1, 2, 11, 12, 13, 14]) (c_X5_night__1 (hB := (α 0)) (b1 := (α 1)) (b2 := (α 2)) (b3 := (α 3)) (b4 := (α 4)) (b5 := (α 5)) (b6 := (α 6)) (b7 := (α 7)) (b8 := (α 8)) (b9 := (α 9)) (b10 := (α 10)) (c1 := (α 12)) (f := f) (σ := σ) (e1 := (α 16)) (e2 := (α 17)) (e3 := (α 18)) (par := par) (fre := fre) (pri := pri) (sls := sls) (drk := drk) (pla := pla) (tks := tks) (t1 := t1) (t2 := t2) (t3 := t3) (n := n) (hR := hRC) (hW := hW) (hn := (by omega))) (fun v u h => by obtain ⟨z0, z1, z2, z3, z4, z5, z6, z7, z8, z9, rfl, rfl⟩ := h; exact ⟨⟨_, rfl⟩, rfl⟩) rfl rfl rfl).mono ?_
  rintro v9 w9 ⟨u, ⟨z0, z1, z2, z3, z4, z5, z6, z7, z8, z9, rfl, rfl⟩, rfl⟩
  exact ⟨rfl, ⟨od, sz, z0, z1, z2, z3, z4, z5, z6, par1, fre1, pri1, sls1, drk1, pla1, tks1, sd, st, par3, fre3, pri3, sls3, drk3, pla3, tks3, f, f2, D, K, Z, tx, z7, z8, z9, r1, r2, r3, s1, s2, s3, bl, rfl, hW, hRC, hHC, hKC⟩⟩
set_option maxRecDepth 100000 in
theorem t_night_2 {l : Launch} {E : Ev} (hst : l.stackTraces = false) {α : Nat → Nat} {σ : Sg} {hs : Nat → Sg} {cnt : Nat} {ks : Nat → Sg} {kd : Nat → Nat} {w : va_W} (hA : Ar E α σ hs cnt ks kd w) {n : Nat}(hn : n < 20) : CtN l E yL_tryNight method_11_code 4 (some FieldType.int) (some [(0, 6, 7, 13), (0, 6, 11, 20)]) 8 132 0 [.ref (α 0), .int (nI n), .int (nI 2)] w (fun v9 w9 => v9 = some (.int (nI (bm (fun a => sI σ a n) 10))) ∧ Ar E α σ hs cnt ks kd w9) := by
  obtain ⟨od, sz, par, fre, pri, sls, drk, pla, tks, par1, fre1, pri1, sls1, drk1, pla1, tks1, sd, st, par3, fre3, pri3, sls3, drk3, pla3, tks3, f, f2, D, K, Z, tx, t1, t2, t3, r1, r2, r3, s1, s2, s3, bl, rfl, hW, hRC, hHC, hKC⟩ := hA
  have hwP := hW.P
  have hwA := hW.A
  have hwS := hW.S
  have h14 := hHC.1
  refine (wo_tryNight (is := [0, 1, 2, 11, 12, 13, 14]) (c_X5_night__2 (hB := (α 0)) (b1 := (α 1)) (b2 := (α 2)) (b3 := (α 3)) (b4 := (α 4)) (b5 := (α 5)) (b6 := (α 6)) (b7 := (α 7)) (b8 := (α 8)) (b9 := (α 9)) (b10 := (α 10)) (c1 := (α 12)) (f := f) (σ := σ) (e1 := (α 16)) (e2 := (α 17)) (e3 := (α 18)) (par := par) (fre := fre) (pri := pri) (sls := sls) (drk := drk) (pla := pla) (tks := tks) (t1 := t1) (t2 := t2) (t3 := t3) (n := n) (hR := hRC) (hW := hW) (hn := (by omega))) (fun v u h => by obtain ⟨z0, z1, z2, z3, z4, z5, z6, z7, z8, z9, rfl, rfl⟩ := h; exact ⟨⟨_, rfl⟩, rfl⟩) rfl rfl rfl).mono ?_
  rintro v9 w9 ⟨u, ⟨z0, z1, z2, z3, z4, z5, z6, z7, z8, z9, rfl, rfl⟩, rfl⟩
  exact ⟨rfl, ⟨od, sz, z0, z1, z2, z3, z4, z5, z6, par1, fre1, pri1, sls1, drk1, pla1, tks1, sd, st, par3, fre3, pri3, sls3, drk3, pla3, tks3, f, f2, D, K, Z, tx, z7, z8, z9, r1, r2, r3, s1, s2, s3, bl, rfl, hW, hRC, hHC, hKC⟩⟩
set_option maxRecDepth 100000 in
theorem t_night_3 {l : Launch} {E : Ev} (hst : l.stackTraces = false) {α : Nat → Nat} {σ : Sg} {hs : Nat → Sg} {cnt : Nat} {ks : Nat → Sg} {kd : Nat → Nat} {w : va_W} (hA : Ar E α σ hs cnt ks kd w) {n : Nat}(hn : n < 20) : CtN l E yL_tryNight method_11_code 4 (some FieldType.int) (some [(0, 6, 7, 13), (0, 6, 11, 20)]) 8 132 0 [.ref (α 0), .int (nI n), .int (nI 3)] w (fun v9 w9 => v9 = some (.int (nI (plr σ n))) ∧ Ar E α σ hs cnt ks kd w9) := by
  obtain ⟨od, sz, par, fre, pri, sls, drk, pla, tks, par1, fre1, pri1, sls1, drk1, pla1, tks1, sd, st, par3, fre3, pri3, sls3, drk3, pla3, tks3, f, f2, D, K, Z, tx, t1, t2, t3, r1, r2, r3, s1, s2, s3, bl, rfl, hW, hRC, hHC, hKC⟩ := hA
  have hwP := hW.P
  have hwA := hW.A
  have hwS := hW.S
  have h14 := hHC.1
  refine (wo_tryNight (is := [0, 1, 2, 11, 12, 13, 14]) (c_X5_night__3 (hB := (α 0)) (b1 := (α 1)) (b2 := (α 2)) (b3 := (α 3)) (b4 := (α 4)) (b5 := (α 5)) (b6 := (α 6)) (b7 := (α 7)) (b8 := (α 8)) (b9 := (α 9)) (b10 := (α 10)) (c1 := (α 12)) (f := f) (σ := σ) (e1 := (α 16)) (e2 := (α 17)) (e3 := (α 18)) (par := par) (fre := fre) (pri := pri) (sls := sls) (drk := drk) (pla := pla) (tks := tks) (t1 := t1) (t2 := t2) (t3 := t3) (n := n) (hR := hRC) (hW := hW) (hn := (by omega))) (fun v u h => by obtain ⟨z0, z1, z2, z3, z4, z5, z6, z7, z8, z9, rfl, rfl⟩ := h; exact ⟨⟨_, rfl⟩, rfl⟩) rfl rfl rfl).mono ?_
  rintro v9 w9 ⟨u, ⟨z0, z1, z2, z3, z4, z5, z6, z7, z8, z9, rfl, rfl⟩, rfl⟩
  exact ⟨rfl, ⟨od, sz, z0, z1, z2, z3, z4, z5, z6, par1, fre1, pri1, sls1, drk1, pla1, tks1, sd, st, par3, fre3, pri3, sls3, drk3, pla3, tks3, f, f2, D, K, Z, tx, z7, z8, z9, r1, r2, r3, s1, s2, s3, bl, rfl, hW, hRC, hHC, hKC⟩⟩
set_option maxRecDepth 100000 in
theorem t_night_4 {l : Launch} {E : Ev} (hst : l.stackTraces = false) {α : Nat → Nat} {σ : Sg} {hs : Nat → Sg} {cnt : Nat} {ks : Nat → Sg} {kd : Nat → Nat} {w : va_W} (hA : Ar E α σ hs cnt ks kd w) {n : Nat}(hn : n < 20) : CtN l E yL_tryNight method_11_code 4 (some FieldType.int) (some [(0, 6, 7, 13), (0, 6, 11, 20)]) 8 132 0 [.ref (α 0), .int (nI n), .int (nI 4)] w (fun v9 w9 => v9 = some (.int (nI (otk σ n))) ∧ Ar E α σ hs cnt ks kd w9) := by
  obtain ⟨od, sz, par, fre, pri, sls, drk, pla, tks, par1, fre1, pri1, sls1, drk1, pla1, tks1, sd, st, par3, fre3, pri3, sls3, drk3, pla3, tks3, f, f2, D, K, Z, tx, t1, t2, t3, r1, r2, r3, s1, s2, s3, bl, rfl, hW, hRC, hHC, hKC⟩ := hA
  have hwP := hW.P
  have hwA := hW.A
  have hwS := hW.S
  have h14 := hHC.1
  refine (wo_tryNight (is := [0, 1, 2, 11, 12, 13, 14]) (c_X5_night__4 (hB := (α 0)) (b1 := (α 1)) (b2 := (α 2)) (b3 := (α 3)) (b4 := (α 4)) (b5 := (α 5)) (b6 := (α 6)) (b7 := (α 7)) (b8 := (α 8)) (b9 := (α 9)) (b10 := (α 10)) (c1 := (α 12)) (f := f) (σ := σ) (e1 := (α 16)) (e2 := (α 17)) (e3 := (α 18)) (par := par) (fre := fre) (pri := pri) (sls := sls) (drk := drk) (pla := pla) (tks := tks) (t1 := t1) (t2 := t2) (t3 := t3) (n := n) (hR := hRC) (hW := hW) (hn := (by omega))) (fun v u h => by obtain ⟨z0, z1, z2, z3, z4, z5, z6, z7, z8, z9, rfl, rfl⟩ := h; exact ⟨⟨_, rfl⟩, rfl⟩) rfl rfl rfl).mono ?_
  rintro v9 w9 ⟨u, ⟨z0, z1, z2, z3, z4, z5, z6, z7, z8, z9, rfl, rfl⟩, rfl⟩
  exact ⟨rfl, ⟨od, sz, z0, z1, z2, z3, z4, z5, z6, par1, fre1, pri1, sls1, drk1, pla1, tks1, sd, st, par3, fre3, pri3, sls3, drk3, pla3, tks3, f, f2, D, K, Z, tx, z7, z8, z9, r1, r2, r3, s1, s2, s3, bl, rfl, hW, hRC, hHC, hKC⟩⟩
set_option maxRecDepth 100000 in
theorem t_night_na {l : Launch} {E : Ev} (hst : l.stackTraces = false) {α : Nat → Nat} {σ : Sg} {hs : Nat → Sg} {cnt : Nat} {ks : Nat → Sg} {kd : Nat → Nat} {w : va_W} (hA : Ar E α σ hs cnt ks kd w) {x y : Int32}(hx : ¬ vI x 20) : CtN l E yL_tryNight method_11_code 4 (some FieldType.int) (some [(0, 6, 7, 13), (0, 6, 11, 20)]) 8 132 1 [.ref (α 0), .int x, .int y] w (fun v9 w9 => v9 = some (.int (-9999001)) ∧ Ar E α σ hs cnt ks kd w9) := by
  obtain ⟨od, sz, par, fre, pri, sls, drk, pla, tks, par1, fre1, pri1, sls1, drk1, pla1, tks1, sd, st, par3, fre3, pri3, sls3, drk3, pla3, tks3, f, f2, D, K, Z, tx, t1, t2, t3, r1, r2, r3, s1, s2, s3, bl, rfl, hW, hRC, hHC, hKC⟩ := hA
  have hwP := hW.P
  have hwA := hW.A
  have hwS := hW.S
  have h14 := hHC.1
  refine (wn_tryNight_B (is := [0, 1, 2]) (c_X5_night__ta (hst := hst) (hB := (α 0)) (b1 := (α 1)) (b2 := (α 2)) (b3 := (α 3)) (b4 := (α 4)) (b5 := (α 5)) (b6 := (α 6)) (b7 := (α 7)) (b8 := (α 8)) (b9 := (α 9)) (b10 := (α 10)) (c1 := (α 12)) (f := f) (σ := σ) (n := x) (w := y) (hR := hRC) (hW := hW) (hx := hx)) rfl rfl rfl).mono ?_
  rintro v9 w9 ⟨u, rfl, rfl, rfl⟩
  exact ⟨rfl, ⟨od, sz, par, fre, pri, sls, drk, pla, tks, par1, fre1, pri1, sls1, drk1, pla1, tks1, sd, st, par3, fre3, pri3, sls3, drk3, pla3, tks3, f, f2, D, K, Z, tx, t1, t2, t3, r1, r2, r3, s1, s2, s3, bl, rfl, hW, hRC, hHC, hKC⟩⟩
set_option maxRecDepth 100000 in
theorem t_night_nb {l : Launch} {E : Ev} (hst : l.stackTraces = false) {α : Nat → Nat} {σ : Sg} {hs : Nat → Sg} {cnt : Nat} {ks : Nat → Sg} {kd : Nat → Nat} {w : va_W} (hA : Ar E α σ hs cnt ks kd w) {n : Nat}{x : Int32}(hn : n < 20)(hx : ¬ vI x 5) : CtN l E yL_tryNight method_11_code 4 (some FieldType.int) (some [(0, 6, 7, 13), (0, 6, 11, 20)]) 8 132 1 [.ref (α 0), .int (nI n), .int x] w (fun v9 w9 => v9 = some (.int (-9999002)) ∧ Ar E α σ hs cnt ks kd w9) := by
  obtain ⟨od, sz, par, fre, pri, sls, drk, pla, tks, par1, fre1, pri1, sls1, drk1, pla1, tks1, sd, st, par3, fre3, pri3, sls3, drk3, pla3, tks3, f, f2, D, K, Z, tx, t1, t2, t3, r1, r2, r3, s1, s2, s3, bl, rfl, hW, hRC, hHC, hKC⟩ := hA
  have hwP := hW.P
  have hwA := hW.A
  have hwS := hW.S
  have h14 := hHC.1
  refine (wn_tryNight_A (is := [0, 1, 2, 11, 12, 13, 14]) (c_X5_night__tb (hst := hst) (hB := (α 0)) (b1 := (α 1)) (b2 := (α 2)) (b3 := (α 3)) (b4 := (α 4)) (b5 := (α 5)) (b6 := (α 6)) (b7 := (α 7)) (b8 := (α 8)) (b9 := (α 9)) (b10 := (α 10)) (c1 := (α 12)) (f := f) (σ := σ) (e1 := (α 16)) (e2 := (α 17)) (e3 := (α 18)) (par := par) (fre := fre) (pri := pri) (sls := sls) (drk := drk) (pla := pla) (tks := tks) (t1 := t1) (t2 := t2) (t3 := t3) (n := n) (w := x) (hR := hRC) (hW := hW) (hn := (by omega)) (hx := hx)) rfl rfl rfl).mono ?_
  rintro v9 w9 ⟨u, ⟨z0, z1, z2, z3, z4, z5, z6, z7, z8, z9, rfl⟩, rfl, rfl⟩
  exact ⟨rfl, ⟨od, sz, z0, z1, z2, z3, z4, z5, z6, par1, fre1, pri1, sls1, drk1, pla1, tks1, sd, st, par3, fre3, pri3, sls3, drk3, pla3, tks3, f, f2, D, K, Z, tx, z7, z8, z9, r1, r2, r3, s1, s2, s3, bl, rfl, hW, hRC, hHC, hKC⟩⟩
set_option maxRecDepth 100000 in
theorem t_actor_0 {l : Launch} {E : Ev} (hst : l.stackTraces = false) {α : Nat → Nat} {σ : Sg} {hs : Nat → Sg} {cnt : Nat} {ks : Nat → Sg} {kd : Nat → Nat} {w : va_W} (hA : Ar E α σ hs cnt ks kd w) {a : Nat}(ha : a < sA σ) : CtN l E yL_tryActor method_12_code 4 (some FieldType.int) (some [(0, 6, 7, 13), (0, 6, 11, 20)]) 8 141 0 [.ref (α 0), .int (nI a), .int (nI 0)] w (fun v9 w9 => v9 = some (.int (nI (sF σ a))) ∧ Ar E α σ hs cnt ks kd w9) := by
  obtain ⟨od, sz, par, fre, pri, sls, drk, pla, tks, par1, fre1, pri1, sls1, drk1, pla1, tks1, sd, st, par3, fre3, pri3, sls3, drk3, pla3, tks3, f, f2, D, K, Z, tx, t1, t2, t3, r1, r2, r3, s1, s2, s3, bl, rfl, hW, hRC, hHC, hKC⟩ := hA
  have hwP := hW.P
  have hwA := hW.A
  have hwS := hW.S
  have h14 := hHC.1
  refine (wo_tryActor (is := [0, 1, 2]) (c_X5_actor__0 (hB := (α 0)) (b1 := (α 1)) (b2 := (α 2)) (b3 := (α 3)) (b4 := (α 4)) (b5 := (α 5)) (b6 := (α 6)) (b7 := (α 7)) (b8 := (α 8)) (b9 := (α 9)) (b10 := (α 10)) (c1 := (α 12)) (f := f) (σ := σ) (a := a) (hR := hRC) (hW := hW) (ha := (by omega))) (fun v u h => by obtain ⟨rfl, rfl⟩ := h; exact ⟨⟨_, rfl⟩, rfl⟩) rfl rfl rfl).mono ?_
  rintro v9 w9 ⟨u, ⟨rfl, rfl⟩, rfl⟩
  exact ⟨rfl, ⟨od, sz, par, fre, pri, sls, drk, pla, tks, par1, fre1, pri1, sls1, drk1, pla1, tks1, sd, st, par3, fre3, pri3, sls3, drk3, pla3, tks3, f, f2, D, K, Z, tx, t1, t2, t3, r1, r2, r3, s1, s2, s3, bl, rfl, hW, hRC, hHC, hKC⟩⟩
set_option maxRecDepth 100000 in
theorem t_actor_1 {l : Launch} {E : Ev} (hst : l.stackTraces = false) {α : Nat → Nat} {σ : Sg} {hs : Nat → Sg} {cnt : Nat} {ks : Nat → Sg} {kd : Nat → Nat} {w : va_W} (hA : Ar E α σ hs cnt ks kd w) {a : Nat}(ha : a < sA σ) : CtN l E yL_tryActor method_12_code 4 (some FieldType.int) (some [(0, 6, 7, 13), (0, 6, 11, 20)]) 8 141 0 [.ref (α 0), .int (nI a), .int (nI 1)] w (fun v9 w9 => v9 = some (.int (nI (pcN σ a 20))) ∧ Ar E α σ hs cnt ks kd w9) := by
  obtain ⟨od, sz, par, fre, pri, sls, drk, pla, tks, par1, fre1, pri1, sls1, drk1, pla1, tks1, sd, st, par3, fre3, pri3, sls3, drk3, pla3, tks3, f, f2, D, K, Z, tx, t1, t2, t3, r1, r2, r3, s1, s2, s3, bl, rfl, hW, hRC, hHC, hKC⟩ := hA
  have hwP := hW.P
  have hwA := hW.A
  have hwS := hW.S
  have h14 := hHC.1
  refine (wo_tryActor (is := [0, 1, 2, 11, 12, 13, 14]) (c_X5_actor__1 (hB := (α 0)) (b1 := (α 1)) (b2 := (α 2)) (b3 := (α 3)) (b4 := (α 4)) (b5 := (α 5)) (b6 := (α 6)) (b7 := (α 7)) (b8 := (α 8)) (b9 := (α 9)) (b10 := (α 10)) (c1 := (α 12)) (f := f) (σ := σ) (e1 := (α 16)) (e2 := (α 17)) (e3 := (α 18)) (par := par) (fre := fre) (pri := pri) (sls := sls) (drk := drk) (pla := pla) (tks := tks) (t1 := t1) (t2 := t2) (t3 := t3) (a := a) (hR := hRC) (hW := hW) (ha := (by omega))) (fun v u h => by obtain ⟨z0, z1, z2, z3, z4, z5, z6, z7, z8, z9, rfl, rfl⟩ := h; exact ⟨⟨_, rfl⟩, rfl⟩) rfl rfl rfl).mono ?_
  rintro v9 w9 ⟨u, ⟨z0, z1, z2, z3, z4, z5, z6, z7, z8, z9, rfl, rfl⟩, rfl⟩
  exact ⟨rfl, ⟨od, sz, z0, z1, z2, z3, z4, z5, z6, par1, fre1, pri1, sls1, drk1, pla1, tks1, sd, st, par3, fre3, pri3, sls3, drk3, pla3, tks3, f, f2, D, K, Z, tx, z7, z8, z9, r1, r2, r3, s1, s2, s3, bl, rfl, hW, hRC, hHC, hKC⟩⟩
set_option maxRecDepth 100000 in
theorem t_actor_2 {l : Launch} {E : Ev} (hst : l.stackTraces = false) {α : Nat → Nat} {σ : Sg} {hs : Nat → Sg} {cnt : Nat} {ks : Nat → Sg} {kd : Nat → Nat} {w : va_W} (hA : Ar E α σ hs cnt ks kd w) {a : Nat}(ha : a < sA σ) : CtN l E yL_tryActor method_12_code 4 (some FieldType.int) (some [(0, 6, 7, 13), (0, 6, 11, 20)]) 8 141 0 [.ref (α 0), .int (nI a), .int (nI 2)] w (fun v9 w9 => v9 = some (.int (mI (pfN σ a 20))) ∧ Ar E α σ hs cnt ks kd w9) := by
  obtain ⟨od, sz, par, fre, pri, sls, drk, pla, tks, par1, fre1, pri1, sls1, drk1, pla1, tks1, sd, st, par3, fre3, pri3, sls3, drk3, pla3, tks3, f, f2, D, K, Z, tx, t1, t2, t3, r1, r2, r3, s1, s2, s3, bl, rfl, hW, hRC, hHC, hKC⟩ := hA
  have hwP := hW.P
  have hwA := hW.A
  have hwS := hW.S
  have h14 := hHC.1
  refine (wo_tryActor (is := [0, 1, 2, 11, 12, 13, 14]) (c_X5_actor__2 (hB := (α 0)) (b1 := (α 1)) (b2 := (α 2)) (b3 := (α 3)) (b4 := (α 4)) (b5 := (α 5)) (b6 := (α 6)) (b7 := (α 7)) (b8 := (α 8)) (b9 := (α 9)) (b10 := (α 10)) (c1 := (α 12)) (f := f) (σ := σ) (e1 := (α 16)) (e2 := (α 17)) (e3 := (α 18)) (par := par) (fre := fre) (pri := pri) (sls := sls) (drk := drk) (pla := pla) (tks := tks) (t1 := t1) (t2 := t2) (t3 := t3) (a := a) (hR := hRC) (hW := hW) (ha := (by omega))) (fun v u h => by obtain ⟨z0, z1, z2, z3, z4, z5, z6, z7, z8, z9, rfl, rfl⟩ := h; exact ⟨⟨_, rfl⟩, rfl⟩) rfl rfl rfl).mono ?_
  rintro v9 w9 ⟨u, ⟨z0, z1, z2, z3, z4, z5, z6, z7, z8, z9, rfl, rfl⟩, rfl⟩
  exact ⟨rfl, ⟨od, sz, z0, z1, z2, z3, z4, z5, z6, par1, fre1, pri1, sls1, drk1, pla1, tks1, sd, st, par3, fre3, pri3, sls3, drk3, pla3, tks3, f, f2, D, K, Z, tx, z7, z8, z9, r1, r2, r3, s1, s2, s3, bl, rfl, hW, hRC, hHC, hKC⟩⟩
set_option maxRecDepth 100000 in
theorem t_actor_3 {l : Launch} {E : Ev} (hst : l.stackTraces = false) {α : Nat → Nat} {σ : Sg} {hs : Nat → Sg} {cnt : Nat} {ks : Nat → Sg} {kd : Nat → Nat} {w : va_W} (hA : Ar E α σ hs cnt ks kd w) {a : Nat}(ha : a < sA σ) : CtN l E yL_tryActor method_12_code 4 (some FieldType.int) (some [(0, 6, 7, 13), (0, 6, 11, 20)]) 8 141 0 [.ref (α 0), .int (nI a), .int (nI 3)] w (fun v9 w9 => v9 = some (.int (mI (plN σ a 20))) ∧ Ar E α σ hs cnt ks kd w9) := by
  obtain ⟨od, sz, par, fre, pri, sls, drk, pla, tks, par1, fre1, pri1, sls1, drk1, pla1, tks1, sd, st, par3, fre3, pri3, sls3, drk3, pla3, tks3, f, f2, D, K, Z, tx, t1, t2, t3, r1, r2, r3, s1, s2, s3, bl, rfl, hW, hRC, hHC, hKC⟩ := hA
  have hwP := hW.P
  have hwA := hW.A
  have hwS := hW.S
  have h14 := hHC.1
  refine (wo_tryActor (is := [0, 1, 2, 11, 12, 13, 14]) (c_X5_actor__3 (hB := (α 0)) (b1 := (α 1)) (b2 := (α 2)) (b3 := (α 3)) (b4 := (α 4)) (b5 := (α 5)) (b6 := (α 6)) (b7 := (α 7)) (b8 := (α 8)) (b9 := (α 9)) (b10 := (α 10)) (c1 := (α 12)) (f := f) (σ := σ) (e1 := (α 16)) (e2 := (α 17)) (e3 := (α 18)) (par := par) (fre := fre) (pri := pri) (sls := sls) (drk := drk) (pla := pla) (tks := tks) (t1 := t1) (t2 := t2) (t3 := t3) (a := a) (hR := hRC) (hW := hW) (ha := (by omega))) (fun v u h => by obtain ⟨z0, z1, z2, z3, z4, z5, z6, z7, z8, z9, rfl, rfl⟩ := h; exact ⟨⟨_, rfl⟩, rfl⟩) rfl rfl rfl).mono ?_
  rintro v9 w9 ⟨u, ⟨z0, z1, z2, z3, z4, z5, z6, z7, z8, z9, rfl, rfl⟩, rfl⟩
  exact ⟨rfl, ⟨od, sz, z0, z1, z2, z3, z4, z5, z6, par1, fre1, pri1, sls1, drk1, pla1, tks1, sd, st, par3, fre3, pri3, sls3, drk3, pla3, tks3, f, f2, D, K, Z, tx, z7, z8, z9, r1, r2, r3, s1, s2, s3, bl, rfl, hW, hRC, hHC, hKC⟩⟩
set_option maxRecDepth 100000 in
theorem t_actor_4 {l : Launch} {E : Ev} (hst : l.stackTraces = false) {α : Nat → Nat} {σ : Sg} {hs : Nat → Sg} {cnt : Nat} {ks : Nat → Sg} {kd : Nat → Nat} {w : va_W} (hA : Ar E α σ hs cnt ks kd w) {a : Nat}(ha : a < sA σ) : CtN l E yL_tryActor method_12_code 4 (some FieldType.int) (some [(0, 6, 7, 13), (0, 6, 11, 20)]) 8 141 0 [.ref (α 0), .int (nI a), .int (nI 4)] w (fun v9 w9 => v9 = some (.int (nI (paN σ a 20))) ∧ Ar E α σ hs cnt ks kd w9) := by
  obtain ⟨od, sz, par, fre, pri, sls, drk, pla, tks, par1, fre1, pri1, sls1, drk1, pla1, tks1, sd, st, par3, fre3, pri3, sls3, drk3, pla3, tks3, f, f2, D, K, Z, tx, t1, t2, t3, r1, r2, r3, s1, s2, s3, bl, rfl, hW, hRC, hHC, hKC⟩ := hA
  have hwP := hW.P
  have hwA := hW.A
  have hwS := hW.S
  have h14 := hHC.1
  refine (wo_tryActor (is := [0, 1, 2, 11, 12, 13, 14]) (c_X5_actor__4 (hB := (α 0)) (b1 := (α 1)) (b2 := (α 2)) (b3 := (α 3)) (b4 := (α 4)) (b5 := (α 5)) (b6 := (α 6)) (b7 := (α 7)) (b8 := (α 8)) (b9 := (α 9)) (b10 := (α 10)) (c1 := (α 12)) (f := f) (σ := σ) (e1 := (α 16)) (e2 := (α 17)) (e3 := (α 18)) (par := par) (fre := fre) (pri := pri) (sls := sls) (drk := drk) (pla := pla) (tks := tks) (t1 := t1) (t2 := t2) (t3 := t3) (a := a) (hR := hRC) (hW := hW) (ha := (by omega))) (fun v u h => by obtain ⟨z0, z1, z2, z3, z4, z5, z6, z7, z8, z9, rfl, rfl⟩ := h; exact ⟨⟨_, rfl⟩, rfl⟩) rfl rfl rfl).mono ?_
  rintro v9 w9 ⟨u, ⟨z0, z1, z2, z3, z4, z5, z6, z7, z8, z9, rfl, rfl⟩, rfl⟩
  exact ⟨rfl, ⟨od, sz, z0, z1, z2, z3, z4, z5, z6, par1, fre1, pri1, sls1, drk1, pla1, tks1, sd, st, par3, fre3, pri3, sls3, drk3, pla3, tks3, f, f2, D, K, Z, tx, z7, z8, z9, r1, r2, r3, s1, s2, s3, bl, rfl, hW, hRC, hHC, hKC⟩⟩
set_option maxRecDepth 100000 in
theorem t_actor_5 {l : Launch} {E : Ev} (hst : l.stackTraces = false) {α : Nat → Nat} {σ : Sg} {hs : Nat → Sg} {cnt : Nat} {ks : Nat → Sg} {kd : Nat → Nat} {w : va_W} (hA : Ar E α σ hs cnt ks kd w) {a : Nat}(ha : a < sA σ) : CtN l E yL_tryActor method_12_code 4 (some FieldType.int) (some [(0, 6, 7, 13), (0, 6, 11, 20)]) 8 141 0 [.ref (α 0), .int (nI a), .int (nI 5)] w (fun v9 w9 => v9 = some (.int (nI (cntI σ a 20))) ∧ Ar E α σ hs cnt ks kd w9) := by
  obtain ⟨od, sz, par, fre, pri, sls, drk, pla, tks, par1, fre1, pri1, sls1, drk1, pla1, tks1, sd, st, par3, fre3, pri3, sls3, drk3, pla3, tks3, f, f2, D, K, Z, tx, t1, t2, t3, r1, r2, r3, s1, s2, s3, bl, rfl, hW, hRC, hHC, hKC⟩ := hA
  have hwP := hW.P
  have hwA := hW.A
  have hwS := hW.S
  have h14 := hHC.1
  refine (wo_tryActor (is := [0, 1, 2]) (c_X5_actor__5 (hB := (α 0)) (b1 := (α 1)) (b2 := (α 2)) (b3 := (α 3)) (b4 := (α 4)) (b5 := (α 5)) (b6 := (α 6)) (b7 := (α 7)) (b8 := (α 8)) (b9 := (α 9)) (b10 := (α 10)) (c1 := (α 12)) (f := f) (σ := σ) (a := a) (hR := hRC) (hW := hW) (ha := (by omega))) (fun v u h => by obtain ⟨rfl, rfl⟩ := h; exact ⟨⟨_, rfl⟩, rfl⟩) rfl rfl rfl).mono ?_
  rintro v9 w9 ⟨u, ⟨rfl, rfl⟩, rfl⟩
  exact ⟨rfl, ⟨od, sz, par, fre, pri, sls, drk, pla, tks, par1, fre1, pri1, sls1, drk1, pla1, tks1, sd, st, par3, fre3, pri3, sls3, drk3, pla3, tks3, f, f2, D, K, Z, tx, t1, t2, t3, r1, r2, r3, s1, s2, s3, bl, rfl, hW, hRC, hHC, hKC⟩⟩
set_option maxRecDepth 100000 in
theorem t_actor_na {l : Launch} {E : Ev} (hst : l.stackTraces = false) {α : Nat → Nat} {σ : Sg} {hs : Nat → Sg} {cnt : Nat} {ks : Nat → Sg} {kd : Nat → Nat} {w : va_W} (hA : Ar E α σ hs cnt ks kd w) {x y : Int32}(hx : ¬ vI x (sA σ)) : CtN l E yL_tryActor method_12_code 4 (some FieldType.int) (some [(0, 6, 7, 13), (0, 6, 11, 20)]) 8 141 1 [.ref (α 0), .int x, .int y] w (fun v9 w9 => v9 = some (.int (-9999001)) ∧ Ar E α σ hs cnt ks kd w9) := by
  obtain ⟨od, sz, par, fre, pri, sls, drk, pla, tks, par1, fre1, pri1, sls1, drk1, pla1, tks1, sd, st, par3, fre3, pri3, sls3, drk3, pla3, tks3, f, f2, D, K, Z, tx, t1, t2, t3, r1, r2, r3, s1, s2, s3, bl, rfl, hW, hRC, hHC, hKC⟩ := hA
  have hwP := hW.P
  have hwA := hW.A
  have hwS := hW.S
  have h14 := hHC.1
  refine (wn_tryActor_B (is := [0, 1, 2]) (c_X5_actor__ta (hst := hst) (hB := (α 0)) (b1 := (α 1)) (b2 := (α 2)) (b3 := (α 3)) (b4 := (α 4)) (b5 := (α 5)) (b6 := (α 6)) (b7 := (α 7)) (b8 := (α 8)) (b9 := (α 9)) (b10 := (α 10)) (c1 := (α 12)) (f := f) (σ := σ) (a := x) (w := y) (hR := hRC) (hW := hW) (hx := hx)) rfl rfl rfl).mono ?_
  rintro v9 w9 ⟨u, rfl, rfl, rfl⟩
  exact ⟨rfl, ⟨od, sz, par, fre, pri, sls, drk, pla, tks, par1, fre1, pri1, sls1, drk1, pla1, tks1, sd, st, par3, fre3, pri3, sls3, drk3, pla3, tks3, f, f2, D, K, Z, tx, t1, t2, t3, r1, r2, r3, s1, s2, s3, bl, rfl, hW, hRC, hHC, hKC⟩⟩
set_option maxRecDepth 100000 in
theorem t_actor_nb {l : Launch} {E : Ev} (hst : l.stackTraces = false) {α : Nat → Nat} {σ : Sg} {hs : Nat → Sg} {cnt : Nat} {ks : Nat → Sg} {kd : Nat → Nat} {w : va_W} (hA : Ar E α σ hs cnt ks kd w) {a : Nat}{x : Int32}(ha : a < sA σ)(hx : ¬ vI x 6) : CtN l E yL_tryActor method_12_code 4 (some FieldType.int) (some [(0, 6, 7, 13), (0, 6, 11, 20)]) 8 141 1 [.ref (α 0), .int (nI a), .int x] w (fun v9 w9 => v9 = some (.int (-9999002)) ∧ Ar E α σ hs cnt ks kd w9) := by
  obtain ⟨od, sz, par, fre, pri, sls, drk, pla, tks, par1, fre1, pri1, sls1, drk1, pla1, tks1, sd, st, par3, fre3, pri3, sls3, drk3, pla3, tks3, f, f2, D, K, Z, tx, t1, t2, t3, r1, r2, r3, s1, s2, s3, bl, rfl, hW, hRC, hHC, hKC⟩ := hA
  have hwP := hW.P
  have hwA := hW.A
  have hwS := hW.S
  have h14 := hHC.1
  refine (wn_tryActor_A (is := [0, 1, 2]) (c_X5_actor__tb (hst := hst) (hB := (α 0)) (b1 := (α 1)) (b2 := (α 2)) (b3 := (α 3)) (b4 := (α 4)) (b5 := (α 5)) (b6 := (α 6)) (b7 := (α 7)) (b8 := (α 8)) (b9 := (α 9)) (b10 := (α 10)) (c1 := (α 12)) (f := f) (σ := σ) (a := a) (w := x) (hR := hRC) (hW := hW) (ha := (by omega)) (hx := hx)) rfl rfl rfl).mono ?_
  rintro v9 w9 ⟨u, rfl, rfl, rfl⟩
  exact ⟨rfl, ⟨od, sz, par, fre, pri, sls, drk, pla, tks, par1, fre1, pri1, sls1, drk1, pla1, tks1, sd, st, par3, fre3, pri3, sls3, drk3, pla3, tks3, f, f2, D, K, Z, tx, t1, t2, t3, r1, r2, r3, s1, s2, s3, bl, rfl, hW, hRC, hHC, hKC⟩⟩
set_option maxRecDepth 100000 in
theorem t_ranked {l : Launch} {E : Ev} (hst : l.stackTraces = false) {α : Nat → Nat} {σ : Sg} {hs : Nat → Sg} {cnt : Nat} {ks : Nat → Sg} {kd : Nat → Nat} {w : va_W} (hA : Ar E α σ hs cnt ks kd w) {p k : Nat}(hp : p < sP σ)(hk : k < 2147483648) : CtN l E yL_tryRanked method_13_code 4 (some FieldType.int) (some [(0, 6, 7, 13), (0, 6, 11, 20)]) 8 133 0 [.ref (α 0), .int (nI p), .int (nI k)] w (fun v9 w9 => v9 = some (.int (mI (sUm σ p k))) ∧ Ar E α σ hs cnt ks kd w9) := by
  obtain ⟨od, sz, par, fre, pri, sls, drk, pla, tks, par1, fre1, pri1, sls1, drk1, pla1, tks1, sd, st, par3, fre3, pri3, sls3, drk3, pla3, tks3, f, f2, D, K, Z, tx, t1, t2, t3, r1, r2, r3, s1, s2, s3, bl, rfl, hW, hRC, hHC, hKC⟩ := hA
  have hwP := hW.P
  have hwA := hW.A
  have hwS := hW.S
  have h14 := hHC.1
  refine (wo_tryRanked (is := [0, 1, 2]) (c_X5_ranked (hB := (α 0)) (b1 := (α 1)) (b2 := (α 2)) (b3 := (α 3)) (b4 := (α 4)) (b5 := (α 5)) (b6 := (α 6)) (b7 := (α 7)) (b8 := (α 8)) (b9 := (α 9)) (b10 := (α 10)) (c1 := (α 12)) (f := f) (σ := σ) (p := p) (k := k) (hR := hRC) (hW := hW) (hp := (by omega)) (hk := (by omega))) (fun v u h => by obtain ⟨rfl, rfl⟩ := h; exact ⟨⟨_, rfl⟩, rfl⟩) rfl rfl rfl).mono ?_
  rintro v9 w9 ⟨u, ⟨rfl, rfl⟩, rfl⟩
  exact ⟨rfl, ⟨od, sz, par, fre, pri, sls, drk, pla, tks, par1, fre1, pri1, sls1, drk1, pla1, tks1, sd, st, par3, fre3, pri3, sls3, drk3, pla3, tks3, f, f2, D, K, Z, tx, t1, t2, t3, r1, r2, r3, s1, s2, s3, bl, rfl, hW, hRC, hHC, hKC⟩⟩
set_option maxRecDepth 100000 in
theorem t_ranked_na {l : Launch} {E : Ev} (hst : l.stackTraces = false) {α : Nat → Nat} {σ : Sg} {hs : Nat → Sg} {cnt : Nat} {ks : Nat → Sg} {kd : Nat → Nat} {w : va_W} (hA : Ar E α σ hs cnt ks kd w) {x y : Int32}(hx : ¬ vI x (sP σ)) : CtN l E yL_tryRanked method_13_code 4 (some FieldType.int) (some [(0, 6, 7, 13), (0, 6, 11, 20)]) 8 133 1 [.ref (α 0), .int x, .int y] w (fun v9 w9 => v9 = some (.int (-9999001)) ∧ Ar E α σ hs cnt ks kd w9) := by
  obtain ⟨od, sz, par, fre, pri, sls, drk, pla, tks, par1, fre1, pri1, sls1, drk1, pla1, tks1, sd, st, par3, fre3, pri3, sls3, drk3, pla3, tks3, f, f2, D, K, Z, tx, t1, t2, t3, r1, r2, r3, s1, s2, s3, bl, rfl, hW, hRC, hHC, hKC⟩ := hA
  have hwP := hW.P
  have hwA := hW.A
  have hwS := hW.S
  have h14 := hHC.1
  refine (wn_tryRanked_B (is := [0, 1, 2]) (c_X5_ranked__ta (hst := hst) (hB := (α 0)) (b1 := (α 1)) (b2 := (α 2)) (b3 := (α 3)) (b4 := (α 4)) (b5 := (α 5)) (b6 := (α 6)) (b7 := (α 7)) (b8 := (α 8)) (b9 := (α 9)) (b10 := (α 10)) (c1 := (α 12)) (f := f) (σ := σ) (p := x) (k := y) (hR := hRC) (hW := hW) (hx := hx)) rfl rfl rfl).mono ?_
  rintro v9 w9 ⟨u, rfl, rfl, rfl⟩
  exact ⟨rfl, ⟨od, sz, par, fre, pri, sls, drk, pla, tks, par1, fre1, pri1, sls1, drk1, pla1, tks1, sd, st, par3, fre3, pri3, sls3, drk3, pla3, tks3, f, f2, D, K, Z, tx, t1, t2, t3, r1, r2, r3, s1, s2, s3, bl, rfl, hW, hRC, hHC, hKC⟩⟩
set_option maxRecDepth 100000 in
theorem t_ranked_nb {l : Launch} {E : Ev} (hst : l.stackTraces = false) {α : Nat → Nat} {σ : Sg} {hs : Nat → Sg} {cnt : Nat} {ks : Nat → Sg} {kd : Nat → Nat} {w : va_W} (hA : Ar E α σ hs cnt ks kd w) {p : Nat}{x : Int32}(hp : p < sP σ)(hx : x < 0) : CtN l E yL_tryRanked method_13_code 4 (some FieldType.int) (some [(0, 6, 7, 13), (0, 6, 11, 20)]) 8 133 1 [.ref (α 0), .int (nI p), .int x] w (fun v9 w9 => v9 = some (.int (-9999002)) ∧ Ar E α σ hs cnt ks kd w9) := by
  obtain ⟨od, sz, par, fre, pri, sls, drk, pla, tks, par1, fre1, pri1, sls1, drk1, pla1, tks1, sd, st, par3, fre3, pri3, sls3, drk3, pla3, tks3, f, f2, D, K, Z, tx, t1, t2, t3, r1, r2, r3, s1, s2, s3, bl, rfl, hW, hRC, hHC, hKC⟩ := hA
  have hwP := hW.P
  have hwA := hW.A
  have hwS := hW.S
  have h14 := hHC.1
  refine (wn_tryRanked_A (is := [0, 1, 2]) (c_X5_ranked__tb (hst := hst) (hB := (α 0)) (b1 := (α 1)) (b2 := (α 2)) (b3 := (α 3)) (b4 := (α 4)) (b5 := (α 5)) (b6 := (α 6)) (b7 := (α 7)) (b8 := (α 8)) (b9 := (α 9)) (b10 := (α 10)) (c1 := (α 12)) (f := f) (σ := σ) (p := p) (k := x) (hR := hRC) (hW := hW) (hp := (by omega)) (hx := hx)) rfl rfl rfl).mono ?_
  rintro v9 w9 ⟨u, rfl, rfl, rfl⟩
  exact ⟨rfl, ⟨od, sz, par, fre, pri, sls, drk, pla, tks, par1, fre1, pri1, sls1, drk1, pla1, tks1, sd, st, par3, fre3, pri3, sls3, drk3, pla3, tks3, f, f2, D, K, Z, tx, t1, t2, t3, r1, r2, r3, s1, s2, s3, bl, rfl, hW, hRC, hHC, hKC⟩⟩
set_option maxRecDepth 100000 in
theorem t_found_0 {l : Launch} {E : Ev} (hst : l.stackTraces = false) {α : Nat → Nat} {σ : Sg} {hs : Nat → Sg} {cnt : Nat} {ks : Nat → Sg} {kd : Nat → Nat} {w : va_W} (hA : Ar E α σ hs cnt ks kd w) {k : Nat}(hk : k < sS σ) : CtN l E yL_tryFound method_14_code 4 (some FieldType.int) (some [(0, 6, 7, 13), (0, 6, 11, 20)]) 8 133 0 [.ref (α 0), .int (nI k), .int (nI 0)] w (fun v9 w9 => v9 = some (.int (nI (sL σ k 0))) ∧ Ar E α σ hs cnt ks kd w9) := by
  obtain ⟨od, sz, par, fre, pri, sls, drk, pla, tks, par1, fre1, pri1, sls1, drk1, pla1, tks1, sd, st, par3, fre3, pri3, sls3, drk3, pla3, tks3, f, f2, D, K, Z, tx, t1, t2, t3, r1, r2, r3, s1, s2, s3, bl, rfl, hW, hRC, hHC, hKC⟩ := hA
  have hwP := hW.P
  have hwA := hW.A
  have hwS := hW.S
  have h14 := hHC.1
  refine (wo_tryFound (is := [0, 1, 2]) (c_X5_found__0 (hB := (α 0)) (b1 := (α 1)) (b2 := (α 2)) (b3 := (α 3)) (b4 := (α 4)) (b5 := (α 5)) (b6 := (α 6)) (b7 := (α 7)) (b8 := (α 8)) (b9 := (α 9)) (b10 := (α 10)) (c1 := (α 12)) (f := f) (σ := σ) (k := k) (hR := hRC) (hW := hW) (hk := (by omega))) (fun v u h => by obtain ⟨rfl, rfl⟩ := h; exact ⟨⟨_, rfl⟩, rfl⟩) rfl rfl rfl).mono ?_
  rintro v9 w9 ⟨u, ⟨rfl, rfl⟩, rfl⟩
  exact ⟨rfl, ⟨od, sz, par, fre, pri, sls, drk, pla, tks, par1, fre1, pri1, sls1, drk1, pla1, tks1, sd, st, par3, fre3, pri3, sls3, drk3, pla3, tks3, f, f2, D, K, Z, tx, t1, t2, t3, r1, r2, r3, s1, s2, s3, bl, rfl, hW, hRC, hHC, hKC⟩⟩
set_option maxRecDepth 100000 in
theorem t_found_1 {l : Launch} {E : Ev} (hst : l.stackTraces = false) {α : Nat → Nat} {σ : Sg} {hs : Nat → Sg} {cnt : Nat} {ks : Nat → Sg} {kd : Nat → Nat} {w : va_W} (hA : Ar E α σ hs cnt ks kd w) {k : Nat}(hk : k < sS σ) : CtN l E yL_tryFound method_14_code 4 (some FieldType.int) (some [(0, 6, 7, 13), (0, 6, 11, 20)]) 8 133 0 [.ref (α 0), .int (nI k), .int (nI 1)] w (fun v9 w9 => v9 = some (.int (nI (sL σ k 1))) ∧ Ar E α σ hs cnt ks kd w9) := by
  obtain ⟨od, sz, par, fre, pri, sls, drk, pla, tks, par1, fre1, pri1, sls1, drk1, pla1, tks1, sd, st, par3, fre3, pri3, sls3, drk3, pla3, tks3, f, f2, D, K, Z, tx, t1, t2, t3, r1, r2, r3, s1, s2, s3, bl, rfl, hW, hRC, hHC, hKC⟩ := hA
  have hwP := hW.P
  have hwA := hW.A
  have hwS := hW.S
  have h14 := hHC.1
  refine (wo_tryFound (is := [0, 1, 2]) (c_X5_found__1 (hB := (α 0)) (b1 := (α 1)) (b2 := (α 2)) (b3 := (α 3)) (b4 := (α 4)) (b5 := (α 5)) (b6 := (α 6)) (b7 := (α 7)) (b8 := (α 8)) (b9 := (α 9)) (b10 := (α 10)) (c1 := (α 12)) (f := f) (σ := σ) (k := k) (hR := hRC) (hW := hW) (hk := (by omega))) (fun v u h => by obtain ⟨rfl, rfl⟩ := h; exact ⟨⟨_, rfl⟩, rfl⟩) rfl rfl rfl).mono ?_
  rintro v9 w9 ⟨u, ⟨rfl, rfl⟩, rfl⟩
  exact ⟨rfl, ⟨od, sz, par, fre, pri, sls, drk, pla, tks, par1, fre1, pri1, sls1, drk1, pla1, tks1, sd, st, par3, fre3, pri3, sls3, drk3, pla3, tks3, f, f2, D, K, Z, tx, t1, t2, t3, r1, r2, r3, s1, s2, s3, bl, rfl, hW, hRC, hHC, hKC⟩⟩
set_option maxRecDepth 100000 in
theorem t_found_2 {l : Launch} {E : Ev} (hst : l.stackTraces = false) {α : Nat → Nat} {σ : Sg} {hs : Nat → Sg} {cnt : Nat} {ks : Nat → Sg} {kd : Nat → Nat} {w : va_W} (hA : Ar E α σ hs cnt ks kd w) {k : Nat}(hk : k < sS σ) : CtN l E yL_tryFound method_14_code 4 (some FieldType.int) (some [(0, 6, 7, 13), (0, 6, 11, 20)]) 8 133 0 [.ref (α 0), .int (nI k), .int (nI 2)] w (fun v9 w9 => v9 = some (.int (nI (sL σ k 2))) ∧ Ar E α σ hs cnt ks kd w9) := by
  obtain ⟨od, sz, par, fre, pri, sls, drk, pla, tks, par1, fre1, pri1, sls1, drk1, pla1, tks1, sd, st, par3, fre3, pri3, sls3, drk3, pla3, tks3, f, f2, D, K, Z, tx, t1, t2, t3, r1, r2, r3, s1, s2, s3, bl, rfl, hW, hRC, hHC, hKC⟩ := hA
  have hwP := hW.P
  have hwA := hW.A
  have hwS := hW.S
  have h14 := hHC.1
  refine (wo_tryFound (is := [0, 1, 2]) (c_X5_found__2 (hB := (α 0)) (b1 := (α 1)) (b2 := (α 2)) (b3 := (α 3)) (b4 := (α 4)) (b5 := (α 5)) (b6 := (α 6)) (b7 := (α 7)) (b8 := (α 8)) (b9 := (α 9)) (b10 := (α 10)) (c1 := (α 12)) (f := f) (σ := σ) (k := k) (hR := hRC) (hW := hW) (hk := (by omega))) (fun v u h => by obtain ⟨rfl, rfl⟩ := h; exact ⟨⟨_, rfl⟩, rfl⟩) rfl rfl rfl).mono ?_
  rintro v9 w9 ⟨u, ⟨rfl, rfl⟩, rfl⟩
  exact ⟨rfl, ⟨od, sz, par, fre, pri, sls, drk, pla, tks, par1, fre1, pri1, sls1, drk1, pla1, tks1, sd, st, par3, fre3, pri3, sls3, drk3, pla3, tks3, f, f2, D, K, Z, tx, t1, t2, t3, r1, r2, r3, s1, s2, s3, bl, rfl, hW, hRC, hHC, hKC⟩⟩
set_option maxRecDepth 100000 in
theorem t_found_3 {l : Launch} {E : Ev} (hst : l.stackTraces = false) {α : Nat → Nat} {σ : Sg} {hs : Nat → Sg} {cnt : Nat} {ks : Nat → Sg} {kd : Nat → Nat} {w : va_W} (hA : Ar E α σ hs cnt ks kd w) {k : Nat}(hk : k < sS σ) : CtN l E yL_tryFound method_14_code 4 (some FieldType.int) (some [(0, 6, 7, 13), (0, 6, 11, 20)]) 8 133 0 [.ref (α 0), .int (nI k), .int (nI 3)] w (fun v9 w9 => v9 = some (.int (nI (sL σ k 3))) ∧ Ar E α σ hs cnt ks kd w9) := by
  obtain ⟨od, sz, par, fre, pri, sls, drk, pla, tks, par1, fre1, pri1, sls1, drk1, pla1, tks1, sd, st, par3, fre3, pri3, sls3, drk3, pla3, tks3, f, f2, D, K, Z, tx, t1, t2, t3, r1, r2, r3, s1, s2, s3, bl, rfl, hW, hRC, hHC, hKC⟩ := hA
  have hwP := hW.P
  have hwA := hW.A
  have hwS := hW.S
  have h14 := hHC.1
  refine (wo_tryFound (is := [0, 1, 2]) (c_X5_found__3 (hB := (α 0)) (b1 := (α 1)) (b2 := (α 2)) (b3 := (α 3)) (b4 := (α 4)) (b5 := (α 5)) (b6 := (α 6)) (b7 := (α 7)) (b8 := (α 8)) (b9 := (α 9)) (b10 := (α 10)) (c1 := (α 12)) (f := f) (σ := σ) (k := k) (hR := hRC) (hW := hW) (hk := (by omega))) (fun v u h => by obtain ⟨rfl, rfl⟩ := h; exact ⟨⟨_, rfl⟩, rfl⟩) rfl rfl rfl).mono ?_
  rintro v9 w9 ⟨u, ⟨rfl, rfl⟩, rfl⟩
  exact ⟨rfl, ⟨od, sz, par, fre, pri, sls, drk, pla, tks, par1, fre1, pri1, sls1, drk1, pla1, tks1, sd, st, par3, fre3, pri3, sls3, drk3, pla3, tks3, f, f2, D, K, Z, tx, t1, t2, t3, r1, r2, r3, s1, s2, s3, bl, rfl, hW, hRC, hHC, hKC⟩⟩
set_option maxRecDepth 100000 in
theorem t_found_4 {l : Launch} {E : Ev} (hst : l.stackTraces = false) {α : Nat → Nat} {σ : Sg} {hs : Nat → Sg} {cnt : Nat} {ks : Nat → Sg} {kd : Nat → Nat} {w : va_W} (hA : Ar E α σ hs cnt ks kd w) {k : Nat}(hk : k < sS σ) : CtN l E yL_tryFound method_14_code 4 (some FieldType.int) (some [(0, 6, 7, 13), (0, 6, 11, 20)]) 8 133 0 [.ref (α 0), .int (nI k), .int (nI 4)] w (fun v9 w9 => v9 = some (.int (nI (if usd σ k then 1 else 0))) ∧ Ar E α σ hs cnt ks kd w9) := by
  obtain ⟨od, sz, par, fre, pri, sls, drk, pla, tks, par1, fre1, pri1, sls1, drk1, pla1, tks1, sd, st, par3, fre3, pri3, sls3, drk3, pla3, tks3, f, f2, D, K, Z, tx, t1, t2, t3, r1, r2, r3, s1, s2, s3, bl, rfl, hW, hRC, hHC, hKC⟩ := hA
  have hwP := hW.P
  have hwA := hW.A
  have hwS := hW.S
  have h14 := hHC.1
  refine (wo_tryFound (is := [0, 1, 2, 11, 12, 13, 14]) (c_X5_found__4 (hB := (α 0)) (b1 := (α 1)) (b2 := (α 2)) (b3 := (α 3)) (b4 := (α 4)) (b5 := (α 5)) (b6 := (α 6)) (b7 := (α 7)) (b8 := (α 8)) (b9 := (α 9)) (b10 := (α 10)) (c1 := (α 12)) (f := f) (σ := σ) (e1 := (α 16)) (e2 := (α 17)) (e3 := (α 18)) (par := par) (fre := fre) (pri := pri) (sls := sls) (drk := drk) (pla := pla) (tks := tks) (t1 := t1) (t2 := t2) (t3 := t3) (k := k) (hR := hRC) (hW := hW) (hk := (by omega))) (fun v u h => by obtain ⟨z0, z1, z2, z3, z4, z5, z6, z7, z8, z9, rfl, rfl⟩ := h; exact ⟨⟨_, rfl⟩, rfl⟩) rfl rfl rfl).mono ?_
  rintro v9 w9 ⟨u, ⟨z0, z1, z2, z3, z4, z5, z6, z7, z8, z9, rfl, rfl⟩, rfl⟩
  exact ⟨rfl, ⟨od, sz, z0, z1, z2, z3, z4, z5, z6, par1, fre1, pri1, sls1, drk1, pla1, tks1, sd, st, par3, fre3, pri3, sls3, drk3, pla3, tks3, f, f2, D, K, Z, tx, z7, z8, z9, r1, r2, r3, s1, s2, s3, bl, rfl, hW, hRC, hHC, hKC⟩⟩
set_option maxRecDepth 100000 in
theorem t_found_na {l : Launch} {E : Ev} (hst : l.stackTraces = false) {α : Nat → Nat} {σ : Sg} {hs : Nat → Sg} {cnt : Nat} {ks : Nat → Sg} {kd : Nat → Nat} {w : va_W} (hA : Ar E α σ hs cnt ks kd w) {x y : Int32}(hx : ¬ vI x (sS σ)) : CtN l E yL_tryFound method_14_code 4 (some FieldType.int) (some [(0, 6, 7, 13), (0, 6, 11, 20)]) 8 133 1 [.ref (α 0), .int x, .int y] w (fun v9 w9 => v9 = some (.int (-9999001)) ∧ Ar E α σ hs cnt ks kd w9) := by
  obtain ⟨od, sz, par, fre, pri, sls, drk, pla, tks, par1, fre1, pri1, sls1, drk1, pla1, tks1, sd, st, par3, fre3, pri3, sls3, drk3, pla3, tks3, f, f2, D, K, Z, tx, t1, t2, t3, r1, r2, r3, s1, s2, s3, bl, rfl, hW, hRC, hHC, hKC⟩ := hA
  have hwP := hW.P
  have hwA := hW.A
  have hwS := hW.S
  have h14 := hHC.1
  refine (wn_tryFound_B (is := [0, 1, 2]) (c_X5_found__ta (hst := hst) (hB := (α 0)) (b1 := (α 1)) (b2 := (α 2)) (b3 := (α 3)) (b4 := (α 4)) (b5 := (α 5)) (b6 := (α 6)) (b7 := (α 7)) (b8 := (α 8)) (b9 := (α 9)) (b10 := (α 10)) (c1 := (α 12)) (f := f) (σ := σ) (k := x) (w := y) (hR := hRC) (hW := hW) (hx := hx)) rfl rfl rfl).mono ?_
  rintro v9 w9 ⟨u, rfl, rfl, rfl⟩
  exact ⟨rfl, ⟨od, sz, par, fre, pri, sls, drk, pla, tks, par1, fre1, pri1, sls1, drk1, pla1, tks1, sd, st, par3, fre3, pri3, sls3, drk3, pla3, tks3, f, f2, D, K, Z, tx, t1, t2, t3, r1, r2, r3, s1, s2, s3, bl, rfl, hW, hRC, hHC, hKC⟩⟩
set_option maxRecDepth 100000 in
theorem t_setting {l : Launch} {E : Ev} (hst : l.stackTraces = false) {α : Nat → Nat} {σ : Sg} {hs : Nat → Sg} {cnt : Nat} {ks : Nat → Sg} {kd : Nat → Nat} {w : va_W} (hA : Ar E α σ hs cnt ks kd w) {k : Nat}(hk : k < 2) : CtN l E yL_trySetting method_15_code 3 (some FieldType.int) (some [(0, 5, 6, 20)]) 8 131 0 [.ref (α 0), .int (nI k)] w (fun v9 w9 => v9 = some (.int (nI (sO σ k))) ∧ Ar E α σ hs cnt ks kd w9) := by
  obtain ⟨od, sz, par, fre, pri, sls, drk, pla, tks, par1, fre1, pri1, sls1, drk1, pla1, tks1, sd, st, par3, fre3, pri3, sls3, drk3, pla3, tks3, f, f2, D, K, Z, tx, t1, t2, t3, r1, r2, r3, s1, s2, s3, bl, rfl, hW, hRC, hHC, hKC⟩ := hA
  have hwP := hW.P
  have hwA := hW.A
  have hwS := hW.S
  have h14 := hHC.1
  refine (wo_trySetting (is := [0, 1, 2]) (c_X5_setting (hB := (α 0)) (b1 := (α 1)) (b2 := (α 2)) (b3 := (α 3)) (b4 := (α 4)) (b5 := (α 5)) (b6 := (α 6)) (b7 := (α 7)) (b8 := (α 8)) (b9 := (α 9)) (b10 := (α 10)) (c1 := (α 12)) (f := f) (σ := σ) (w := k) (hR := hRC) (hW := hW) (hw := (by omega))) (fun v u h => by obtain ⟨rfl, rfl⟩ := h; exact ⟨⟨_, rfl⟩, rfl⟩) rfl rfl rfl).mono ?_
  rintro v9 w9 ⟨u, ⟨rfl, rfl⟩, rfl⟩
  exact ⟨rfl, ⟨od, sz, par, fre, pri, sls, drk, pla, tks, par1, fre1, pri1, sls1, drk1, pla1, tks1, sd, st, par3, fre3, pri3, sls3, drk3, pla3, tks3, f, f2, D, K, Z, tx, t1, t2, t3, r1, r2, r3, s1, s2, s3, bl, rfl, hW, hRC, hHC, hKC⟩⟩
set_option maxRecDepth 100000 in
theorem t_setting_no {l : Launch} {E : Ev} (hst : l.stackTraces = false) {α : Nat → Nat} {σ : Sg} {hs : Nat → Sg} {cnt : Nat} {ks : Nat → Sg} {kd : Nat → Nat} {w : va_W} (hA : Ar E α σ hs cnt ks kd w) {x : Int32}(hx : ¬ vI x 2) : CtN l E yL_trySetting method_15_code 3 (some FieldType.int) (some [(0, 5, 6, 20)]) 8 131 1 [.ref (α 0), .int x] w (fun v9 w9 => v9 = some (.int (-9999002)) ∧ Ar E α σ hs cnt ks kd w9) := by
  obtain ⟨od, sz, par, fre, pri, sls, drk, pla, tks, par1, fre1, pri1, sls1, drk1, pla1, tks1, sd, st, par3, fre3, pri3, sls3, drk3, pla3, tks3, f, f2, D, K, Z, tx, t1, t2, t3, r1, r2, r3, s1, s2, s3, bl, rfl, hW, hRC, hHC, hKC⟩ := hA
  have hwP := hW.P
  have hwA := hW.A
  have hwS := hW.S
  have h14 := hHC.1
  refine (wn_trySetting_A (is := [0, 1, 2]) (c_X5_setting__t (hst := hst) (hB := (α 0)) (b1 := (α 1)) (b2 := (α 2)) (b3 := (α 3)) (b4 := (α 4)) (b5 := (α 5)) (b6 := (α 6)) (b7 := (α 7)) (b8 := (α 8)) (b9 := (α 9)) (b10 := (α 10)) (c1 := (α 12)) (f := f) (σ := σ) (w := x) (hR := hRC) (hW := hW) (hx := hx)) rfl rfl rfl).mono ?_
  rintro v9 w9 ⟨u, rfl, rfl, rfl⟩
  exact ⟨rfl, ⟨od, sz, par, fre, pri, sls, drk, pla, tks, par1, fre1, pri1, sls1, drk1, pla1, tks1, sd, st, par3, fre3, pri3, sls3, drk3, pla3, tks3, f, f2, D, K, Z, tx, t1, t2, t3, r1, r2, r3, s1, s2, s3, bl, rfl, hW, hRC, hHC, hKC⟩⟩
set_option maxRecDepth 100000 in
theorem t_hire {l : Launch} {E : Ev} (hst : l.stackTraces = false) {α : Nat → Nat} {σ : Sg} {hs : Nat → Sg} {cnt : Nat} {ks : Nat → Sg} {kd : Nat → Nat} {w : va_W} (hA : Ar E α σ hs cnt ks kd w) {k : Nat}(hk : k < 10) (hq : sA σ < 10) : CtN l E yL_tryHire method_16_code 3 (some FieldType.int) (some [(0, 5, 6, 20), (0, 5, 10, 23)]) 7 112 0 [.ref (α 0), .int (nI k)] w (fun v9 w9 => v9 = some (.int (nI (sA σ))) ∧ Ar E α (oHire σ k) (pushH hs cnt σ) (pushN cnt) ks kd w9) := by
  obtain ⟨od, sz, par, fre, pri, sls, drk, pla, tks, par1, fre1, pri1, sls1, drk1, pla1, tks1, sd, st, par3, fre3, pri3, sls3, drk3, pla3, tks3, f, f2, D, K, Z, tx, t1, t2, t3, r1, r2, r3, s1, s2, s3, bl, rfl, hW, hRC, hHC, hKC⟩ := hA
  have hwP := hW.P
  have hwA := hW.A
  have hwS := hW.S
  have h14 := hHC.1
  refine (wo_tryHire (is := [0, 1, 2, 5, 6]) (c_X5_addActor (hB := (α 0)) (b1 := (α 1)) (b2 := (α 2)) (b3 := (α 3)) (b4 := (α 4)) (b5 := (α 5)) (b6 := (α 6)) (b7 := (α 7)) (b8 := (α 8)) (b9 := (α 9)) (b10 := (α 10)) (c1 := (α 12)) (f := f) (σ := σ) (c3 := (α 14)) (od := od) (cnt := cnt) (D := D) (hs := hs) (x := k) (hR := hRC) (hW := hW) (hH := hHC) (hx := (by omega)) (hA := (by omega))) (fun v u h => by obtain ⟨z0, z1, z2, rfl, rfl, F0, F1⟩ := h; exact ⟨⟨_, rfl⟩, rfl⟩) rfl rfl rfl).mono ?_
  rintro v9 w9 ⟨u, ⟨z0, z1, z2, rfl, rfl, F0, F1⟩, rfl⟩
  exact ⟨rfl, ⟨z1, sz, par, fre, pri, sls, drk, pla, tks, par1, fre1, pri1, sls1, drk1, pla1, tks1, sd, st, par3, fre3, pri3, sls3, drk3, pla3, tks3, z0, f2, z2, K, Z, tx, t1, t2, t3, r1, r2, r3, s1, s2, s3, bl, rfl, oHire_wf hW (by omega) hq, F0, F1, hKC⟩⟩
set_option maxRecDepth 100000 in
theorem t_hire_full {l : Launch} {E : Ev} (hst : l.stackTraces = false) {α : Nat → Nat} {σ : Sg} {hs : Nat → Sg} {cnt : Nat} {ks : Nat → Sg} {kd : Nat → Nat} {w : va_W} (hA : Ar E α σ hs cnt ks kd w) {k : Nat}(hk : k < 10) (hx : ¬ sA σ < 10) : CtN l E yL_tryHire method_16_code 3 (some FieldType.int) (some [(0, 5, 6, 20), (0, 5, 10, 23)]) 7 112 1 [.ref (α 0), .int (nI k)] w (fun v9 w9 => v9 = some (.int (-9999003)) ∧ Ar E α σ hs cnt ks kd w9) := by
  obtain ⟨od, sz, par, fre, pri, sls, drk, pla, tks, par1, fre1, pri1, sls1, drk1, pla1, tks1, sd, st, par3, fre3, pri3, sls3, drk3, pla3, tks3, f, f2, D, K, Z, tx, t1, t2, t3, r1, r2, r3, s1, s2, s3, bl, rfl, hW, hRC, hHC, hKC⟩ := hA
  have hwP := hW.P
  have hwA := hW.A
  have hwS := hW.S
  have h14 := hHC.1
  refine (wn_tryHire_S (is := [0, 1, 2]) (c_X5_addActor__tb (hst := hst) (hB := (α 0)) (b1 := (α 1)) (b2 := (α 2)) (b3 := (α 3)) (b4 := (α 4)) (b5 := (α 5)) (b6 := (α 6)) (b7 := (α 7)) (b8 := (α 8)) (b9 := (α 9)) (b10 := (α 10)) (c1 := (α 12)) (f := f) (σ := σ) (x := k) (hR := hRC) (hW := hW) (h9 := (by omega)) (hx := (by omega))) rfl rfl rfl).mono ?_
  rintro v9 w9 ⟨u, rfl, rfl, rfl⟩
  exact ⟨rfl, ⟨od, sz, par, fre, pri, sls, drk, pla, tks, par1, fre1, pri1, sls1, drk1, pla1, tks1, sd, st, par3, fre3, pri3, sls3, drk3, pla3, tks3, f, f2, D, K, Z, tx, t1, t2, t3, r1, r2, r3, s1, s2, s3, bl, rfl, hW, hRC, hHC, hKC⟩⟩
set_option maxRecDepth 100000 in
theorem t_hire_no {l : Launch} {E : Ev} (hst : l.stackTraces = false) {α : Nat → Nat} {σ : Sg} {hs : Nat → Sg} {cnt : Nat} {ks : Nat → Sg} {kd : Nat → Nat} {w : va_W} (hA : Ar E α σ hs cnt ks kd w) {x : Int32}(hx : ¬ vI x 10) : CtN l E yL_tryHire method_16_code 3 (some FieldType.int) (some [(0, 5, 6, 20), (0, 5, 10, 23)]) 7 112 1 [.ref (α 0), .int x] w (fun v9 w9 => v9 = some (.int (-9999002)) ∧ Ar E α σ hs cnt ks kd w9) := by
  obtain ⟨od, sz, par, fre, pri, sls, drk, pla, tks, par1, fre1, pri1, sls1, drk1, pla1, tks1, sd, st, par3, fre3, pri3, sls3, drk3, pla3, tks3, f, f2, D, K, Z, tx, t1, t2, t3, r1, r2, r3, s1, s2, s3, bl, rfl, hW, hRC, hHC, hKC⟩ := hA
  have hwP := hW.P
  have hwA := hW.A
  have hwS := hW.S
  have h14 := hHC.1
  refine (wn_tryHire_A (is := [0, 1, 2]) (c_X5_addActor__ta (hst := hst) (hB := (α 0)) (b1 := (α 1)) (b2 := (α 2)) (b3 := (α 3)) (b4 := (α 4)) (b5 := (α 5)) (b6 := (α 6)) (b7 := (α 7)) (b8 := (α 8)) (b9 := (α 9)) (b10 := (α 10)) (c1 := (α 12)) (f := f) (σ := σ) (x := x) (hR := hRC) (hW := hW) (hx := hx)) rfl rfl rfl).mono ?_
  rintro v9 w9 ⟨u, rfl, rfl, rfl⟩
  exact ⟨rfl, ⟨od, sz, par, fre, pri, sls, drk, pla, tks, par1, fre1, pri1, sls1, drk1, pla1, tks1, sd, st, par3, fre3, pri3, sls3, drk3, pla3, tks3, f, f2, D, K, Z, tx, t1, t2, t3, r1, r2, r3, s1, s2, s3, bl, rfl, hW, hRC, hHC, hKC⟩⟩
set_option maxRecDepth 100000 in
theorem t_part {l : Launch} {E : Ev} (hst : l.stackTraces = false) {α : Nat → Nat} {σ : Sg} {hs : Nat → Sg} {cnt : Nat} {ks : Nat → Sg} {kd : Nat → Nat} {w : va_W} (hA : Ar E α σ hs cnt ks kd w) (hq : sP σ < 6) : CtN l E yL_tryPart method_17_code 2 (some FieldType.int) (some [(0, 4, 5, 23)]) 7 130 0 [.ref (α 0)] w (fun v9 w9 => v9 = some (.int (nI (sP σ))) ∧ Ar E α (oPart σ) (pushH hs cnt σ) (pushN cnt) ks kd w9) := by
  obtain ⟨od, sz, par, fre, pri, sls, drk, pla, tks, par1, fre1, pri1, sls1, drk1, pla1, tks1, sd, st, par3, fre3, pri3, sls3, drk3, pla3, tks3, f, f2, D, K, Z, tx, t1, t2, t3, r1, r2, r3, s1, s2, s3, bl, rfl, hW, hRC, hHC, hKC⟩ := hA
  have hwP := hW.P
  have hwA := hW.A
  have hwS := hW.S
  have h14 := hHC.1
  refine (wo_tryPart (is := [0, 1, 2, 5, 6]) (c_X5_addPart (hB := (α 0)) (b1 := (α 1)) (b2 := (α 2)) (b3 := (α 3)) (b4 := (α 4)) (b5 := (α 5)) (b6 := (α 6)) (b7 := (α 7)) (b8 := (α 8)) (b9 := (α 9)) (b10 := (α 10)) (c1 := (α 12)) (f := f) (σ := σ) (c3 := (α 14)) (od := od) (cnt := cnt) (D := D) (hs := hs) (hR := hRC) (hW := hW) (hH := hHC) (hP := (by omega))) (fun v u h => by obtain ⟨z0, z1, z2, rfl, rfl, F0, F1⟩ := h; exact ⟨⟨_, rfl⟩, rfl⟩) rfl rfl rfl).mono ?_
  rintro v9 w9 ⟨u, ⟨z0, z1, z2, rfl, rfl, F0, F1⟩, rfl⟩
  exact ⟨rfl, ⟨z1, sz, par, fre, pri, sls, drk, pla, tks, par1, fre1, pri1, sls1, drk1, pla1, tks1, sd, st, par3, fre3, pri3, sls3, drk3, pla3, tks3, z0, f2, z2, K, Z, tx, t1, t2, t3, r1, r2, r3, s1, s2, s3, bl, rfl, oPart_wf hW hq, F0, F1, hKC⟩⟩
