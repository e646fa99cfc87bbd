/-- a case of the law's switch: over every state that both sides hold -/
def LK (E : Ev) (ω : Om) (lv : List (Nat × Value)) (pc : Nat) (hB b1 b2 b3 b4 b5 b6 b7 b8 b9 b10 b11 c1 c2 c3 c6 e1 e2 e3 g1 g2 g3 h1 h2 h3 hM x1 x3 x4 x5 x7 x8 x9 x10 x11 o : Nat) : Prop := ∀ (od cnt sz par fre pri sls drk pla tks par1 fre1 pri1 sls1 drk1 pla1 tks1 sd st par3 fre3 pri3 sls3 drk3 pla3 tks3 rf sp ou : Nat) (f f2 D K Z tx t1 t2 t3 r1 r2 r3 s1 s2 s3 bl ty g g4 Dm Km Zm u1 u2 u3 : Nat → Int32) (og : Nat → Int64) (σ : Sg) (hs ks : Nat → Sg) (kd sg : Nat → Nat), Wf σ → RepC σ f → RepM σ g → HistC hs cnt od D → HistM hs cnt Dm → KeepC ks kd K Z → KeepM ks kd Km Zm → TxR sg sz tx → TxR sg sz ty → ω [(hB, .inr (5, [.ref b1, .ref b2, .ref b3, .ref b4, .ref b5, .ref b6, .ref b7, .ref b8, .ref b9, .ref b10])), (b1, .inr (4, [.ref c1])), (c1, .inl (eI E, 265, .inl f)), (b2, .inr (4, [.ref c2])), (c2, .inl (eI E, 265, .inl f2)), (b3, .inr (1, [.ref c3, .int (nI od), .int (nI cnt)])), (c3, .inl (eI E, 3710, .inl D)), (b4, .inl (eI E, 530, .inl K)), (b5, .inl (eZ E, 2, .inl Z)), (b6, .inr (2, [.ref c6, .int (nI sz)])), (c6, .inl (eI E, 120, .inl tx)), (b7, .inr (0, [.ref e1, .ref e2, .ref e3, .int (nI par), .int (nI fre), .int (nI pri), .int (nI sls), .int (nI drk), .int (nI pla), .int (nI tks)])), (e1, .inl (eI E, 6, .inl t1)), (e2, .inl (eI E, 6, .inl t2)), (e3, .inl (eI E, 6, .inl t3)), (b8, .inr (0, [.ref g1, .ref g2, .ref g3, .int (nI par1), .int (nI fre1), .int (nI pri1), .int (nI sls1), .int (nI drk1), .int (nI pla1), .int (nI tks1)])), (g1, .inl (eI E, 6, .inl r1)), (g2, .inl (eI E, 6, .inl r2)), (g3, .inl (eI E, 6, .inl r3)), (b9, .inr (3, [.ref b11, .int (nI sd), .int (nI st)])), (b11, .inr (0, [.ref h1, .ref h2, .ref h3, .int (nI par3), .int (nI fre3), .int (nI pri3), .int (nI sls3), .int (nI drk3), .int (nI pla3), .int (nI tks3)])), (h1, .inl (eI E, 6, .inl s1)), (h2, .inl (eI E, 6, .inl s2)), (h3, .inl (eI E, 6, .inl s3)), (b10, .inl (eI E, 20, .inl bl)), (hM, .inr (6, [.int (nI rf), .ref x1, .int (nI sz), .ref x3, .ref x4, .ref x5, .int (nI cnt), .ref x7, .ref x8, .ref x9, .ref x10, .ref x11, .int (nI sp), .int (nI ou)])), (x1, .inl (eI E, 120, .inl ty)), (x3, .inl (eI E, 255, .inl g)), (x4, .inl (eI E, 255, .inl g4)), (x5, .inl (eI E, 3570, .inl Dm)), (x7, .inl (eI E, 510, .inl Km)), (x8, .inl (eZ E, 2, .inl Zm)), (x9, .inl (eI E, 6, .inl u1)), (x10, .inl (eI E, 6, .inl u2)), (x11, .inl (eI E, 6, .inl u3)), (o, .inl (eJ E, 1, .inr (.inl og)))] lv [] pc
theorem vinj {a b : Int32} (h : some (Value.int a) = some (Value.int b)) : a = b := by cases h; rfl
theorem updL0 (g : Nat → Int64) (v : Int64) : vp_updL g 0 v 0 = v := if_pos rfl
theorem eqPlayed (σ : Sg) (n p : Nat) : mI (pT σ n p) = aPlayed σ n p := by
  have := dk_le σ n
  unfold pT aPlayed
  by_cases h : dk σ n = 0
  · rw [if_pos h, if_neg (by omega)]
  · rw [if_neg h, if_pos (by omega)]
theorem slC_9 (σ : Sg) (n p : Nat) : ∀ k, slC σ n p k = slC9 σ n p k
  | 0 => rfl
  | k + 1 => by rw [slC, slC9, slC_9 σ n p k]; split <;> rfl
theorem eqRank (σ : Sg) (p k : Nat) : mI (sUm σ p k) = aRank σ p k := by
  unfold sUm aRank
  split
  · rw [mI_s]
  · rfl
theorem TxR_add {sg : Nat → Nat} {sz c : Nat} {tx : Nat → Int32} (h : TxR sg sz tx) (hz : sz < 120) (hc : c < 256) : TxR (fun k => if k = sz then c else sg k) (sz + 1) (upd tx sz (nI c)) := by
  refine ⟨by omega, fun k hk => ?_⟩
  by_cases e : k = sz
  · subst e
    show upd tx k (nI c) k = nI (if k = k then c else sg k) ∧ (if k = k then c else sg k) < 256
    rw [if_pos rfl, pk_us]
    exact ⟨rfl, hc⟩
  · show upd tx sz (nI c) k = nI (if k = sz then c else sg k) ∧ (if k = sz then c else sg k) < 256
    rw [if_neg e, pk_un e]
    exact h.2 k (by omega)
theorem TxR_0 (sg : Nat → Nat) (tx : Nat → Int32) : TxR sg 0 tx := ⟨by omega, fun k hk => absurd hk (Nat.not_lt_zero k)⟩
theorem HistC_0 (hs : Nat → Sg) (D : Nat → Int32) : HistC hs 0 0 D := ⟨by omega, by omega, fun k hk => absurd hk (Nat.not_lt_zero k)⟩
theorem HistM_0 (hs : Nat → Sg) (D : Nat → Int32) : HistM hs 0 D := ⟨by omega, fun k hk => absurd hk (Nat.not_lt_zero k)⟩
theorem lN_big {n : Nat} (h : n < 9223372036854775808) : (lN n).toInt = (n : Int) := lg_ofNat_toInt (by omega)
theorem lN_of {z : Int64} (h : ¬ z < lN 0) : ∃ S : Nat, S < 9223372036854775808 ∧ z = lN S := by
  rw [Int64.lt_iff_toInt_lt, lN_big (by decide)] at h
  have h2 := Int64.toInt_lt z
  refine ⟨z.toInt.toNat, by omega, Int64.toInt_inj.mp ?_⟩
  rw [lN_big (by omega)]
  omega
theorem lN_leB {a b : Nat} (ha : a < 9223372036854775808) (hb : b < 9223372036854775808) : lN a ≤ lN b ↔ a ≤ b := by
  rw [Int64.le_iff_toInt_le, lN_big ha, lN_big hb]; omega
theorem vJ_of {x : Int32} {n : Nat} (h : vJ x n) (hn : n < 2147483647) : ∃ k : Nat, (1 ≤ k ∧ k ≤ n) ∧ x = nI k := by
  obtain ⟨k, hk, e⟩ := vI_of (x := x) (n := n + 1) ⟨by have := h.1; omega, by have := h.2; omega⟩ (by omega)
  refine ⟨k, ⟨?_, by omega⟩, e⟩
  have h1 := h.1
  rw [e, nI_toInt (by omega)] at h1
  omega
theorem lv_big (x : Int32) (h : ¬ x.toInt < 0) : ∃ k : Nat, k < 2147483648 ∧ x = nI k := by
  have h1 := Int32.toInt_lt x
  refine ⟨x.toInt.toNat, by omega, Int32.toInt_inj.mp ?_⟩
  rw [nI_toInt (by omega)]
  omega
theorem nonneg_of {x : Int32} (h : ¬ x < 0) : ∃ k : Nat, k < 2147483648 ∧ x = nI k := by
  have h0 : (0 : Int32).toInt = 0 := by decide
  rw [Int32.lt_iff_toInt_lt, h0] at h
  obtain ⟨k, hk, e⟩ := lv_big x h
  exact ⟨k, hk, e⟩
theorem mI0_of {x : Int32} (h : x = mI 0) : x = mI 0 := h
set_option maxRecDepth 100000 in
set_option maxHeartbeats 4000000 in
theorem cs_append {l : Launch} {E : Ev} (hst : l.stackTraces = false) {b L : Nat} {xs : Nat → Int32} {c0 s0 : Nat} {Ω : Nat → Om} (hL : Lw l E b L xs c0 s0 Ω) {j i : Nat} (hj : j < 512) (hi : i + 5 ≤ L) (hL2 : L ≤ 2560) {hB b1 b2 b3 b4 b5 b6 b7 b8 b9 b10 b11 c1 c2 c3 c6 e1 e2 e3 g1 g2 g3 h1 h2 h3 hM x1 x3 x4 x5 x7 x8 x9 x10 x11 o : Nat} (kk : LK E (Ω (j + 1)) (lv0 b hB hM o i) 2187 hB b1 b2 b3 b4 b5 b6 b7 b8 b9 b10 b11 c1 c2 c3 c6 e1 e2 e3 g1 g2 g3 h1 h2 h3 hM x1 x3 x4 x5 x7 x8 x9 x10 x11 o) : LK E (Ω j) (lv0 b hB hM o i) 180 hB b1 b2 b3 b4 b5 b6 b7 b8 b9 b10 b11 c1 c2 c3 c6 e1 e2 e3 g1 g2 g3 h1 h2 h3 hM x1 x3 x4 x5 x7 x8 x9 x10 x11 o := by
  intro od cnt sz par fre pri sls drk pla tks par1 fre1 pri1 sls1 drk1 pla1 tks1 sd st par3 fre3 pri3 sls3 drk3 pla3 tks3 rf sp ou f f2 D K Z tx t1 t2 t3 r1 r2 r3 s1 s2 s3 bl ty g g4 Dm Km Zm u1 u2 u3 og σ hs ks kd sg hW hRC hRM hHC hHM hKC hKM hTC hTM
  have hwP := hW.P
  have hwA := hW.A
  have hwS := hW.S
  have hTz := hTC.1
  have h14 := hHC.1
  by_cases q1 : vI (xs (i + 1)) 256
  · obtain ⟨c, hc, ex1⟩ := vI_of q1 (by omega)
    by_cases qz : sz < 120
    · refine lc_append hL hj hi hL2 ex1 (pm := 25) (po := 35) (is1 := [35, 0, 9, 10]) (wo_append (o := o) (g := og) (c_X5_append (hB := hB) (b1 := b1) (b2 := b2) (b3 := b3) (b4 := b4) (b5 := b5) (b6 := b6) (b7 := b7) (b8 := b8) (b9 := b9) (b10 := b10) (c6 := c6) (sz := sz) (tx := tx) (c := c) (hz := (by omega)) (hc := (by omega))) (fun v w h => by obtain ⟨rfl, rfl⟩ := h; exact ⟨⟨_, rfl⟩, rfl⟩) rfl) rfl rfl ?_
      rintro v w ⟨r, w1, hp, rfl, rfl⟩
      obtain ⟨hr0, rfl⟩ := hp
      obtain rfl := vinj hr0
      refine ⟨0, _, _, _, [25, 27, 26], by decide, rfl, (c_X6_append (hM := hM) (rf := rf) (x1 := x1) (sz := sz) (x3 := x3) (x4 := x4) (x5 := x5) (ac := cnt) (x7 := x7) (x8 := x8) (x9 := x9) (x10 := x10) (x11 := x11) (sp := sp) (ou := ou) (g := g) (σ := σ) (tx := ty) (c := c) (hR := hRM) (hW := hW) (hc := (by omega)) (hz := (by omega))), rfl, rfl, rfl, ?_⟩
      rintro v2 w2 hp2
      obtain ⟨rfl, rfl⟩ := hp2
      refine ⟨_, rfl, ⟨⟨_, rfl, ⟨_, _, _, _, _, _, _, _, _, _, _, _, _, rfl⟩⟩, fun _ => ⟨_, rfl, (updL0 _ _).trans (congrArg Int32.toInt64 rfl)⟩⟩, ?_⟩
      exact kk _ _ _ _ _ _ _ _ _ _ _ _ _ _ _ _ _ _ _ _ _ _ _ _ _ _ _ _ _ _ _ _ _ _ _ _ _ _ _ _ _ _ _ _ _ _ _ _ _ _ _ _ _ _ _ _ _ _ _ _ hW hRC hRM hHC hHM hKC hKM (TxR_add hTC qz hc) (TxR_add hTM qz hc)
    · refine lc_append hL hj hi hL2 ex1 (pm := 25) (po := 35) (is1 := [35, 0, 9, 10]) (wn_append_S (o := o) (g := og) (c_X5_append__tb (hst := hst) (hB := hB) (b1 := b1) (b2 := b2) (b3 := b3) (b4 := b4) (b5 := b5) (b6 := b6) (b7 := b7) (b8 := b8) (b9 := b9) (b10 := b10) (c6 := c6) (sz := sz) (tx := tx) (c := c) (hc := (by omega)) (hx := (by omega))) rfl) rfl rfl ?_
      rintro v w ⟨w1, hp, rfl, rfl⟩
      obtain rfl := hp
      refine ⟨2, _, _, _, [25, 27], by decide, rfl, (c_X6_append__x2 (hM := hM) (rf := rf) (x1 := x1) (sz := sz) (x3 := x3) (x4 := x4) (x5 := x5) (ac := cnt) (x7 := x7) (x8 := x8) (x9 := x9) (x10 := x10) (x11 := x11) (sp := sp) (ou := ou) (g := g) (σ := σ) (c := c) (hR := hRM) (hW := hW) (hc := (by omega)) (hx := (by omega))), rfl, rfl, rfl, ?_⟩
      rintro v2 w2 hp2
      obtain ⟨rfl, rfl⟩ := hp2
      refine ⟨_, rfl, ⟨⟨_, rfl, ⟨_, _, _, _, _, _, _, _, _, _, _, _, _, rfl⟩⟩, fun z => absurd z (by decide)⟩, ?_⟩
      exact kk _ _ _ _ _ _ _ _ _ _ _ _ _ _ _ _ _ _ _ _ _ _ _ _ _ _ _ _ _ _ _ _ _ _ _ _ _ _ _ _ _ _ _ _ _ _ _ _ _ _ _ _ _ _ _ _ _ _ _ _ hW hRC hRM hHC hHM hKC hKM hTC hTM
  · refine lc_append hL hj hi hL2 rfl (pm := 25) (po := 35) (is1 := [35, 0, 9, 10]) (wn_append_A (o := o) (g := og) (c_X5_append__ta (hst := hst) (hB := hB) (b1 := b1) (b2 := b2) (b3 := b3) (b4 := b4) (b5 := b5) (b6 := b6) (b7 := b7) (b8 := b8) (b9 := b9) (b10 := b10) (c6 := c6) (sz := sz) (tx := tx) (c := (xs (i + 1))) (hx := q1)) rfl) rfl rfl ?_
    rintro v w ⟨w1, hp, rfl, rfl⟩
    obtain rfl := hp
    refine ⟨1, _, _, _, [25, 27], by decide, rfl, (c_X6_append__x1 (hM := hM) (rf := rf) (x1 := x1) (sz := sz) (x3 := x3) (x4 := x4) (x5 := x5) (ac := cnt) (x7 := x7) (x8 := x8) (x9 := x9) (x10 := x10) (x11 := x11) (sp := sp) (ou := ou) (g := g) (σ := σ) (c := (xs (i + 1))) (hR := hRM) (hW := hW) (hx := q1)), rfl, rfl, rfl, ?_⟩
    rintro v2 w2 hp2
    obtain ⟨rfl, rfl⟩ := hp2
    refine ⟨_, rfl, ⟨⟨_, rfl, ⟨_, _, _, _, _, _, _, _, _, _, _, _, _, rfl⟩⟩, fun z => absurd z (by decide)⟩, ?_⟩
    exact kk _ _ _ _ _ _ _ _ _ _ _ _ _ _ _ _ _ _ _ _ _ _ _ _ _ _ _ _ _ _ _ _ _ _ _ _ _ _ _ _ _ _ _ _ _ _ _ _ _ _ _ _ _ _ _ _ _ _ _ _ hW hRC hRM hHC hHM hKC hKM hTC hTM
set_option maxRecDepth 100000 in
set_option maxHeartbeats 4000000 in
theorem cs_clearText {l : Launch} {E : Ev} (hst : l.stackTraces = false) {b L : Nat} {xs : Nat → Int32} {c0 s0 : Nat} {Ω : Nat → Om} (hL : Lw l E b L xs c0 s0 Ω) {j i : Nat} (hj : j < 512) (hi : i + 5 ≤ L) (hL2 : L ≤ 2560) {hB b1 b2 b3 b4 b5 b6 b7 b8 b9 b10 b11 c1 c2 c3 c6 e1 e2 e3 g1 g2 g3 h1 h2 h3 hM x1 x3 x4 x5 x7 x8 x9 x10 x11 o : Nat} (kk : LK E (Ω (j + 1)) (lv0 b hB hM o i) 2187 hB b1 b2 b3 b4 b5 b6 b7 b8 b9 b10 b11 c1 c2 c3 c6 e1 e2 e3 g1 g2 g3 h1 h2 h3 hM x1 x3 x4 x5 x7 x8 x9 x10 x11 o) : LK E (Ω j) (lv0 b hB hM o i) 236 hB b1 b2 b3 b4 b5 b6 b7 b8 b9 b10 b11 c1 c2 c3 c6 e1 e2 e3 g1 g2 g3 h1 h2 h3 hM x1 x3 x4 x5 x7 x8 x9 x10 x11 o := by
  intro od cnt sz par fre pri sls drk pla tks par1 fre1 pri1 sls1 drk1 pla1 tks1 sd st par3 fre3 pri3 sls3 drk3 pla3 tks3 rf sp ou f f2 D K Z tx t1 t2 t3 r1 r2 r3 s1 s2 s3 bl ty g g4 Dm Km Zm u1 u2 u3 og σ hs ks kd sg hW hRC hRM hHC hHM hKC hKM hTC hTM
  have hwP := hW.P
  have hwA := hW.A
  have hwS := hW.S
  have hTz := hTC.1
  have h14 := hHC.1
  refine lc_clearText hL hj hi hL2 (is1 := [0, 9, 10]) (c_X5_clearText (hB := hB) (b1 := b1) (b2 := b2) (b3 := b3) (b4 := b4) (b5 := b5) (b6 := b6) (b7 := b7) (b8 := b8) (b9 := b9) (b10 := b10) (c6 := c6) (sz := sz) (tx := tx) ) rfl rfl rfl ?_
  rintro v w hp
  obtain ⟨rfl, rfl⟩ := hp
  refine ⟨_, _, _, _, [25, 27], rfl, (c_X6_clearText (hM := hM) (rf := rf) (x1 := x1) (sz := sz) (x3 := x3) (x4 := x4) (x5 := x5) (ac := cnt) (x7 := x7) (x8 := x8) (x9 := x9) (x10 := x10) (x11 := x11) (sp := sp) (ou := ou) (g := g) (σ := σ) (hR := hRM) (hW := hW)), rfl, rfl, rfl, ?_⟩
  rintro v2 w2 hp2
  obtain ⟨rfl, rfl⟩ := hp2
  refine ⟨rfl, ?_⟩
  exact kk _ _ _ _ _ _ _ _ _ _ _ _ _ _ _ _ _ _ _ _ _ _ _ _ _ _ _ _ _ _ _ _ _ _ _ _ _ _ _ _ _ _ _ _ _ _ _ _ _ _ _ _ _ _ _ _ _ _ _ _ hW hRC hRM hHC hHM hKC hKM (TxR_0 sg tx) (TxR_0 sg ty)
set_option maxRecDepth 100000 in
set_option maxHeartbeats 4000000 in
theorem cs_errorPosition {l : Launch} {E : Ev} (hst : l.stackTraces = false) {b L : Nat} {xs : Nat → Int32} {c0 s0 : Nat} {Ω : Nat → Om} (hL : Lw l E b L xs c0 s0 Ω) {j i : Nat} (hj : j < 512) (hi : i + 5 ≤ L) (hL2 : L ≤ 2560) {hB b1 b2 b3 b4 b5 b6 b7 b8 b9 b10 b11 c1 c2 c3 c6 e1 e2 e3 g1 g2 g3 h1 h2 h3 hM x1 x3 x4 x5 x7 x8 x9 x10 x11 o : Nat} (kk : LK E (Ω (j + 1)) (lv0 b hB hM o i) 2187 hB b1 b2 b3 b4 b5 b6 b7 b8 b9 b10 b11 c1 c2 c3 c6 e1 e2 e3 g1 g2 g3 h1 h2 h3 hM x1 x3 x4 x5 x7 x8 x9 x10 x11 o) : LK E (Ω j) (lv0 b hB hM o i) 249 hB b1 b2 b3 b4 b5 b6 b7 b8 b9 b10 b11 c1 c2 c3 c6 e1 e2 e3 g1 g2 g3 h1 h2 h3 hM x1 x3 x4 x5 x7 x8 x9 x10 x11 o := by
  intro od cnt sz par fre pri sls drk pla tks par1 fre1 pri1 sls1 drk1 pla1 tks1 sd st par3 fre3 pri3 sls3 drk3 pla3 tks3 rf sp ou f f2 D K Z tx t1 t2 t3 r1 r2 r3 s1 s2 s3 bl ty g g4 Dm Km Zm u1 u2 u3 og σ hs ks kd sg hW hRC hRM hHC hHM hKC hKM hTC hTM
  have hwP := hW.P
  have hwA := hW.A
  have hwS := hW.S
  have hTz := hTC.1
  have h14 := hHC.1
  refine lc_errorPosition hL hj hi hL2 (is1 := [0, 9, 10]) (c_X5_errorPosition (hB := hB) (b1 := b1) (b2 := b2) (b3 := b3) (b4 := b4) (b5 := b5) (b6 := b6) (b7 := b7) (b8 := b8) (b9 := b9) (b10 := b10) (c6 := c6) (sz := sz) (tx := tx) (sg := sg) (hT := hTC)) rfl rfl rfl ?_
  rintro v w hp
  obtain ⟨rfl, rfl⟩ := hp
  refine ⟨_, _, _, _, [25, 26, 28], rfl, (c_X6_errorPosition (hM := hM) (rf := rf) (x1 := x1) (sz := sz) (x3 := x3) (x4 := x4) (x5 := x5) (ac := cnt) (x7 := x7) (x8 := x8) (x9 := x9) (x10 := x10) (x11 := x11) (sp := sp) (ou := ou) (g4 := g4) (tx := ty) (sg := sg) (hT := hTM)), rfl, rfl, rfl, ?_⟩
  rintro v2 w2 hp2
  obtain ⟨y0, y1, y2, rfl, rfl⟩ := hp2
  refine ⟨rfl, ?_⟩
  exact kk _ _ _ _ _ _ _ _ _ _ _ _ _ _ _ _ _ _ _ _ _ _ _ _ _ _ _ _ _ _ _ _ _ _ _ _ _ _ _ _ _ _ _ _ _ _ _ _ _ _ _ _ _ _ _ _ _ _ _ _ hW hRC hRM hHC hHM hKC hKM hTC hTM
set_option maxRecDepth 100000 in
set_option maxHeartbeats 4000000 in
theorem cs_load {l : Launch} {E : Ev} (hst : l.stackTraces = false) {b L : Nat} {xs : Nat → Int32} {c0 s0 : Nat} {Ω : Nat → Om} (hL : Lw l E b L xs c0 s0 Ω) {j i : Nat} (hj : j < 512) (hi : i + 5 ≤ L) (hL2 : L ≤ 2560) {hB b1 b2 b3 b4 b5 b6 b7 b8 b9 b10 b11 c1 c2 c3 c6 e1 e2 e3 g1 g2 g3 h1 h2 h3 hM x1 x3 x4 x5 x7 x8 x9 x10 x11 o : Nat} (kk : LK E (Ω (j + 1)) (lv0 b hB hM o i) 2187 hB b1 b2 b3 b4 b5 b6 b7 b8 b9 b10 b11 c1 c2 c3 c6 e1 e2 e3 g1 g2 g3 h1 h2 h3 hM x1 x3 x4 x5 x7 x8 x9 x10 x11 o) : LK E (Ω j) (lv0 b hB hM o i) 262 hB b1 b2 b3 b4 b5 b6 b7 b8 b9 b10 b11 c1 c2 c3 c6 e1 e2 e3 g1 g2 g3 h1 h2 h3 hM x1 x3 x4 x5 x7 x8 x9 x10 x11 o := by
  intro od cnt sz par fre pri sls drk pla tks par1 fre1 pri1 sls1 drk1 pla1 tks1 sd st par3 fre3 pri3 sls3 drk3 pla3 tks3 rf sp ou f f2 D K Z tx t1 t2 t3 r1 r2 r3 s1 s2 s3 bl ty g g4 Dm Km Zm u1 u2 u3 og σ hs ks kd sg hW hRC hRM hHC hHM hKC hKM hTC hTM
  have hwP := hW.P
  have hwA := hW.A
  have hwS := hW.S
  have hTz := hTC.1
  have h14 := hHC.1
  by_cases qx : flt sg sz = 0
  · refine lc_load hL hj hi hL2  (pm := 25) (po := 35) (is1 := [35, 0, 1, 2, 5, 8, 9, 10]) (wo_load (o := o) (g := og) (c_X5_load (hB := hB) (b1 := b1) (b2 := b2) (b3 := b3) (b4 := b4) (b5 := b5) (b6 := b6) (b7 := b7) (b8 := b8) (b9 := b9) (b10 := b10) (c1 := c1) (f := f) (σ := σ) (c3 := c3) (od := od) (cnt := cnt) (K := K) (Z := Z) (c6 := c6) (sz := sz) (tx := tx) (sg := sg) (hR := hRC) (hW := hW) (hT := hTC) (hx := (by omega))) (fun v w h => by obtain ⟨z0, z1, rfl, rfl, Fz0, Fz1⟩ := h; exact ⟨⟨_, rfl⟩, rfl⟩) rfl) rfl rfl ?_
    rintro v w ⟨r, w1, hp, rfl, rfl⟩
    obtain ⟨z0, z1, hr0, rfl, Fz0, Fz1⟩ := hp
    obtain rfl := vinj hr0
    refine ⟨0, _, _, _, [25, 26, 27, 28, 31], by decide, rfl, (c_X6_load (hM := hM) (rf := rf) (x1 := x1) (sz := sz) (x3 := x3) (x4 := x4) (x5 := x5) (ac := cnt) (x7 := x7) (x8 := x8) (x9 := x9) (x10 := x10) (x11 := x11) (sp := sp) (ou := ou) (g := g) (σ := σ) (g4 := g4) (tx := ty) (sg := sg) (K := Km) (Z := Zm) (hR := hRM) (hW := hW) (hT := hTM) (hx := (by omega))), rfl, rfl, rfl, ?_⟩
    rintro v2 w2 hp2
    obtain ⟨y0, y1, y2, y3, y4, rfl, rfl, Fy0, Fy1⟩ := hp2
    refine ⟨_, rfl, ⟨⟨_, rfl, ⟨_, _, _, _, _, _, _, _, _, _, _, _, _, rfl⟩⟩, fun _ => ⟨_, rfl, (updL0 _ _).trans (congrArg Int32.toInt64 rfl)⟩⟩, ?_⟩
    exact kk _ _ _ _ _ _ _ _ _ _ _ _ _ _ _ _ _ _ _ _ _ _ _ _ _ _ _ _ _ _ _ _ _ _ _ _ _ _ _ _ _ _ _ _ _ _ _ _ _ _ _ _ _ _ _ _ _ _ _ _ (stC_wf sg (nC sg sz)) Fz0 Fy0 (HistC_0 hs D) (HistM_0 hs Dm) Fz1 Fy1 hTC hTM
  · refine lc_load hL hj hi hL2  (pm := 25) (po := 35) (is1 := [35, 0, 9, 10]) (wn_load_S (o := o) (g := og) (c_X5_load__t (hst := hst) (hB := hB) (b1 := b1) (b2 := b2) (b3 := b3) (b4 := b4) (b5 := b5) (b6 := b6) (b7 := b7) (b8 := b8) (b9 := b9) (b10 := b10) (c6 := c6) (sz := sz) (tx := tx) (sg := sg) (hT := hTC) (hx := (by omega))) rfl) rfl rfl ?_
    rintro v w ⟨w1, hp, rfl, rfl⟩
    obtain rfl := hp
    refine ⟨1, _, _, _, [25, 26, 27, 28, 31], by decide, rfl, (c_X6_load__x1 (hM := hM) (rf := rf) (x1 := x1) (sz := sz) (x3 := x3) (x4 := x4) (x5 := x5) (ac := cnt) (x7 := x7) (x8 := x8) (x9 := x9) (x10 := x10) (x11 := x11) (sp := sp) (ou := ou) (g := g) (σ := σ) (g4 := g4) (tx := ty) (sg := sg) (K := Km) (Z := Zm) (hR := hRM) (hW := hW) (hT := hTM) (hx := (by omega))), rfl, rfl, rfl, ?_⟩
    rintro v2 w2 hp2
    obtain ⟨y0, y1, y2, rfl, rfl⟩ := hp2
    refine ⟨_, rfl, ⟨⟨_, rfl, ⟨_, _, _, _, _, _, _, _, _, _, _, _, _, rfl⟩⟩, fun z => absurd z (by decide)⟩, ?_⟩
    exact kk _ _ _ _ _ _ _ _ _ _ _ _ _ _ _ _ _ _ _ _ _ _ _ _ _ _ _ _ _ _ _ _ _ _ _ _ _ _ _ _ _ _ _ _ _ _ _ _ _ _ _ _ _ _ _ _ _ _ _ _ hW hRC hRM hHC hHM hKC hKM hTC hTM
set_option maxRecDepth 100000 in
set_option maxHeartbeats 4000000 in
theorem cs_about {l : Launch} {E : Ev} (hst : l.stackTraces = false) {b L : Nat} {xs : Nat → Int32} {c0 s0 : Nat} {Ω : Nat → Om} (hL : Lw l E b L xs c0 s0 Ω) {j i : Nat} (hj : j < 512) (hi : i + 5 ≤ L) (hL2 : L ≤ 2560) {hB b1 b2 b3 b4 b5 b6 b7 b8 b9 b10 b11 c1 c2 c3 c6 e1 e2 e3 g1 g2 g3 h1 h2 h3 hM x1 x3 x4 x5 x7 x8 x9 x10 x11 o : Nat} (kk : LK E (Ω (j + 1)) (lv0 b hB hM o i) 2187 hB b1 b2 b3 b4 b5 b6 b7 b8 b9 b10 b11 c1 c2 c3 c6 e1 e2 e3 g1 g2 g3 h1 h2 h3 hM x1 x3 x4 x5 x7 x8 x9 x10 x11 o) : LK E (Ω j) (lv0 b hB hM o i) 306 hB b1 b2 b3 b4 b5 b6 b7 b8 b9 b10 b11 c1 c2 c3 c6 e1 e2 e3 g1 g2 g3 h1 h2 h3 hM x1 x3 x4 x5 x7 x8 x9 x10 x11 o := by
  intro od cnt sz par fre pri sls drk pla tks par1 fre1 pri1 sls1 drk1 pla1 tks1 sd st par3 fre3 pri3 sls3 drk3 pla3 tks3 rf sp ou f f2 D K Z tx t1 t2 t3 r1 r2 r3 s1 s2 s3 bl ty g g4 Dm Km Zm u1 u2 u3 og σ hs ks kd sg hW hRC hRM hHC hHM hKC hKM hTC hTM
  have hwP := hW.P
  have hwA := hW.A
  have hwS := hW.S
  have hTz := hTC.1
  have h14 := hHC.1
  by_cases q1 : vI (xs (i + 1)) 7
  · obtain ⟨n, hn, ex1⟩ := vI_of q1 (by omega)
    rcases (by omega : n = 0 ∨ n = 1 ∨ n = 2 ∨ n = 3 ∨ n = 4 ∨ n = 5 ∨ n = 6) with rfl | rfl | rfl | rfl | rfl | rfl | rfl
    · refine lc_about hL hj hi hL2 ex1 (pm := 25) (po := 35) (is1 := [35, 0, 1, 2]) (wo_about (o := o) (g := og) (c_X5_about__0 (hB := hB) (b1 := b1) (b2 := b2) (b3 := b3) (b4 := b4) (b5 := b5) (b6 := b6) (b7 := b7) (b8 := b8) (b9 := b9) (b10 := b10) (c1 := c1) (f := f) (σ := σ) (hR := hRC) (hW := hW)) (fun v w h => by obtain ⟨rfl, rfl⟩ := h; exact ⟨⟨_, rfl⟩, rfl⟩) rfl) rfl rfl ?_
      rintro v w ⟨r, w1, hp, rfl, rfl⟩
      obtain ⟨hr0, rfl⟩ := hp
      obtain rfl := vinj hr0
      refine ⟨0, _, _, _, [25, 32, 33, 34, 27], by decide, rfl, (c_X6_about (hM := hM) (rf := rf) (x1 := x1) (sz := sz) (x3 := x3) (x4 := x4) (x5 := x5) (ac := cnt) (x7 := x7) (x8 := x8) (x9 := x9) (x10 := x10) (x11 := x11) (sp := sp) (ou := ou) (t1 := u1) (t2 := u2) (t3 := u3) (g := g) (σ := σ) (w := 0) (hR := hRM) (hW := hW) (hw := (by omega))), rfl, rfl, rfl, ?_⟩
      rintro v2 w2 hp2
      obtain ⟨y0, y1, y2, rfl, rfl⟩ := hp2
      refine ⟨_, rfl, ⟨⟨_, rfl, ⟨_, _, _, _, _, _, _, _, _, _, _, _, _, rfl⟩⟩, fun _ => ⟨_, rfl, (updL0 _ _).trans (congrArg Int32.toInt64 rfl)⟩⟩, ?_⟩
      exact kk _ _ _ _ _ _ _ _ _ _ _ _ _ _ _ _ _ _ _ _ _ _ _ _ _ _ _ _ _ _ _ _ _ _ _ _ _ _ _ _ _ _ _ _ _ _ _ _ _ _ _ _ _ _ _ _ _ _ _ _ hW hRC hRM hHC hHM hKC hKM hTC hTM
    · refine lc_about hL hj hi hL2 ex1 (pm := 25) (po := 35) (is1 := [35, 0, 1, 2]) (wo_about (o := o) (g := og) (c_X5_about__1 (hB := hB) (b1 := b1) (b2 := b2) (b3 := b3) (b4 := b4) (b5 := b5) (b6 := b6) (b7 := b7) (b8 := b8) (b9 := b9) (b10 := b10) (c1 := c1) (f := f) (σ := σ) (hR := hRC) (hW := hW)) (fun v w h => by obtain ⟨rfl, rfl⟩ := h; exact ⟨⟨_, rfl⟩, rfl⟩) rfl) rfl rfl ?_
      rintro v w ⟨r, w1, hp, rfl, rfl⟩
      obtain ⟨hr0, rfl⟩ := hp
      obtain rfl := vinj hr0
      refine ⟨0, _, _, _, [25, 32, 33, 34, 27], by decide, rfl, (c_X6_about (hM := hM) (rf := rf) (x1 := x1) (sz := sz) (x3 := x3) (x4 := x4) (x5 := x5) (ac := cnt) (x7 := x7) (x8 := x8) (x9 := x9) (x10 := x10) (x11 := x11) (sp := sp) (ou := ou) (t1 := u1) (t2 := u2) (t3 := u3) (g := g) (σ := σ) (w := 1) (hR := hRM) (hW := hW) (hw := (by omega))), rfl, rfl, rfl, ?_⟩
      rintro v2 w2 hp2
      obtain ⟨y0, y1, y2, rfl, rfl⟩ := hp2
      refine ⟨_, rfl, ⟨⟨_, rfl, ⟨_, _, _, _, _, _, _, _, _, _, _, _, _, rfl⟩⟩, fun _ => ⟨_, rfl, (updL0 _ _).trans (congrArg Int32.toInt64 rfl)⟩⟩, ?_⟩
      exact kk _ _ _ _ _ _ _ _ _ _ _ _ _ _ _ _ _ _ _ _ _ _ _ _ _ _ _ _ _ _ _ _ _ _ _ _ _ _ _ _ _ _ _ _ _ _ _ _ _ _ _ _ _ _ _ _ _ _ _ _ hW hRC hRM hHC hHM hKC hKM hTC hTM
    · refine lc_about hL hj hi hL2 ex1 (pm := 25) (po := 35) (is1 := [35, 0, 1, 2]) (wo_about (o := o) (g := og) (c_X5_about__2 (hB := hB) (b1 := b1) (b2 := b2) (b3 := b3) (b4 := b4) (b5 := b5) (b6 := b6) (b7 := b7) (b8 := b8) (b9 := b9) (b10 := b10) (c1 := c1) (f := f) (σ := σ) (hR := hRC) (hW := hW)) (fun v w h => by obtain ⟨rfl, rfl⟩ := h; exact ⟨⟨_, rfl⟩, rfl⟩) rfl) rfl rfl ?_
      rintro v w ⟨r, w1, hp, rfl, rfl⟩
      obtain ⟨hr0, rfl⟩ := hp
      obtain rfl := vinj hr0
      refine ⟨0, _, _, _, [25, 32, 33, 34, 27], by decide, rfl, (c_X6_about (hM := hM) (rf := rf) (x1 := x1) (sz := sz) (x3 := x3) (x4 := x4) (x5 := x5) (ac := cnt) (x7 := x7) (x8 := x8) (x9 := x9) (x10 := x10) (x11 := x11) (sp := sp) (ou := ou) (t1 := u1) (t2 := u2) (t3 := u3) (g := g) (σ := σ) (w := 2) (hR := hRM) (hW := hW) (hw := (by omega))), rfl, rfl, rfl, ?_⟩
      rintro v2 w2 hp2
      obtain ⟨y0, y1, y2, rfl, rfl⟩ := hp2
      refine ⟨_, rfl, ⟨⟨_, rfl, ⟨_, _, _, _, _, _, _, _, _, _, _, _, _, rfl⟩⟩, fun _ => ⟨_, rfl, (updL0 _ _).trans (congrArg Int32.toInt64 rfl)⟩⟩, ?_⟩
      exact kk _ _ _ _ _ _ _ _ _ _ _ _ _ _ _ _ _ _ _ _ _ _ _ _ _ _ _ _ _ _ _ _ _ _ _ _ _ _ _ _ _ _ _ _ _ _ _ _ _ _ _ _ _ _ _ _ _ _ _ _ hW hRC hRM hHC hHM hKC hKM hTC hTM
    · refine lc_about hL hj hi hL2 ex1 (pm := 25) (po := 35) (is1 := [35, 0, 1, 2, 19, 20, 21, 22, 23]) (wo_about (o := o) (g := og) (c_X5_about__3 (hB := hB) (b1 := b1) (b2 := b2) (b3 := b3) (b4 := b4) (b5 := b5) (b6 := b6) (b7 := b7) (b8 := b8) (b9 := b9) (b10 := b10) (c1 := c1) (f := f) (σ := σ) (b11 := b11) (sd := sd) (st := st) (e1 := h1) (e2 := h2) (e3 := h3) (par := par3) (fre := fre3) (pri := pri3) (sls := sls3) (drk := drk3) (pla := pla3) (tks := tks3) (t1 := s1) (t2 := s2) (t3 := s3) (hR := hRC) (hW := hW)) (fun v w h => by obtain ⟨z0, z1, z2, z3, z4, z5, z6, z7, z8, z9, z10, z11, rfl, rfl⟩ := h; exact ⟨⟨_, rfl⟩, rfl⟩) rfl) rfl rfl ?_
      rintro v w ⟨r, w1, hp, rfl, rfl⟩
      obtain ⟨z0, z1, z2, z3, z4, z5, z6, z7, z8, z9, z10, z11, hr0, rfl⟩ := hp
      obtain rfl := vinj hr0
      refine ⟨0, _, _, _, [25, 32, 33, 34, 27], by decide, rfl, (c_X6_about (hM := hM) (rf := rf) (x1 := x1) (sz := sz) (x3 := x3) (x4 := x4) (x5 := x5) (ac := cnt) (x7 := x7) (x8 := x8) (x9 := x9) (x10 := x10) (x11 := x11) (sp := sp) (ou := ou) (t1 := u1) (t2 := u2) (t3 := u3) (g := g) (σ := σ) (w := 3) (hR := hRM) (hW := hW) (hw := (by omega))), rfl, rfl, rfl, ?_⟩
      rintro v2 w2 hp2
      obtain ⟨y0, y1, y2, rfl, rfl⟩ := hp2
      refine ⟨_, rfl, ⟨⟨_, rfl, ⟨_, _, _, _, _, _, _, _, _, _, _, _, _, rfl⟩⟩, fun _ => ⟨_, rfl, (updL0 _ _).trans (congrArg Int32.toInt64 rfl)⟩⟩, ?_⟩
      exact kk _ _ _ _ _ _ _ _ _ _ _ _ _ _ _ _ _ _ _ _ _ _ _ _ _ _ _ _ _ _ _ _ _ _ _ _ _ _ _ _ _ _ _ _ _ _ _ _ _ _ _ _ _ _ _ _ _ _ _ _ hW hRC hRM hHC hHM hKC hKM hTC hTM
    · refine lc_about hL hj hi hL2 ex1 (pm := 25) (po := 35) (is1 := [35, 0, 1, 2, 19, 20, 21, 22, 23]) (wo_about (o := o) (g := og) (c_X5_about__4 (hB := hB) (b1 := b1) (b2 := b2) (b3 := b3) (b4 := b4) (b5 := b5) (b6 := b6) (b7 := b7) (b8 := b8) (b9 := b9) (b10 := b10) (c1 := c1) (f := f) (σ := σ) (b11 := b11) (sd := sd) (st := st) (e1 := h1) (e2 := h2) (e3 := h3) (par := par3) (fre := fre3) (pri := pri3) (sls := sls3) (drk := drk3) (pla := pla3) (tks := tks3) (t1 := s1) (t2 := s2) (t3 := s3) (hR := hRC) (hW := hW)) (fun v w h => by obtain ⟨z0, z1, z2, z3, z4, z5, z6, z7, z8, z9, z10, z11, rfl, rfl⟩ := h; exact ⟨⟨_, rfl⟩, rfl⟩) rfl) rfl rfl ?_
      rintro v w ⟨r, w1, hp, rfl, rfl⟩
      obtain ⟨z0, z1, z2, z3, z4, z5, z6, z7, z8, z9, z10, z11, hr0, rfl⟩ := hp
      obtain rfl := vinj hr0
      refine ⟨0, _, _, _, [25, 32, 33, 34, 27], by decide, rfl, (c_X6_about (hM := hM) (rf := rf) (x1 := x1) (sz := sz) (x3 := x3) (x4 := x4) (x5 := x5) (ac := cnt) (x7 := x7) (x8 := x8) (x9 := x9) (x10 := x10) (x11 := x11) (sp := sp) (ou := ou) (t1 := u1) (t2 := u2) (t3 := u3) (g := g) (σ := σ) (w := 4) (hR := hRM) (hW := hW) (hw := (by omega))), rfl, rfl, rfl, ?_⟩
      rintro v2 w2 hp2
      obtain ⟨y0, y1, y2, rfl, rfl⟩ := hp2
      refine ⟨_, rfl, ⟨⟨_, rfl, ⟨_, _, _, _, _, _, _, _, _, _, _, _, _, rfl⟩⟩, fun _ => ⟨_, rfl, (updL0 _ _).trans (congrArg Int32.toInt64 rfl)⟩⟩, ?_⟩
      exact kk _ _ _ _ _ _ _ _ _ _ _ _ _ _ _ _ _ _ _ _ _ _ _ _ _ _ _ _ _ _ _ _ _ _ _ _ _ _ _ _ _ _ _ _ _ _ _ _ _ _ _ _ _ _ _ _ _ _ _ _ hW hRC hRM hHC hHM hKC hKM hTC hTM
    · refine lc_about hL hj hi hL2 ex1 (pm := 25) (po := 35) (is1 := [35, 0, 1, 2, 11, 12, 13, 14, 24]) (wo_about (o := o) (g := og) (c_X5_about__5 (hB := hB) (b1 := b1) (b2 := b2) (b3 := b3) (b4 := b4) (b5 := b5) (b6 := b6) (b7 := b7) (b8 := b8) (b9 := b9) (b10 := b10) (c1 := c1) (f := f) (σ := σ) (e1 := e1) (e2 := e2) (e3 := e3) (par := par) (fre := fre) (pri := pri) (sls := sls) (drk := drk) (pla := pla) (tks := tks) (t1 := t1) (t2 := t2) (t3 := t3) (bl := bl) (hR := hRC) (hW := hW)) (fun v w h => by obtain ⟨z0, z1, z2, z3, z4, z5, z6, z7, z8, z9, z10, rfl, rfl⟩ := h; exact ⟨⟨_, rfl⟩, rfl⟩) rfl) rfl rfl ?_
      rintro v w ⟨r, w1, hp, rfl, rfl⟩
      obtain ⟨z0, z1, z2, z3, z4, z5, z6, z7, z8, z9, z10, hr0, rfl⟩ := hp
      obtain rfl := vinj hr0
      refine ⟨0, _, _, _, [25, 32, 33, 34, 27], by decide, rfl, (c_X6_about (hM := hM) (rf := rf) (x1 := x1) (sz := sz) (x3 := x3) (x4 := x4) (x5 := x5) (ac := cnt) (x7 := x7) (x8 := x8) (x9 := x9) (x10 := x10) (x11 := x11) (sp := sp) (ou := ou) (t1 := u1) (t2 := u2) (t3 := u3) (g := g) (σ := σ) (w := 5) (hR := hRM) (hW := hW) (hw := (by omega))), rfl, rfl, rfl, ?_⟩
      rintro v2 w2 hp2
      obtain ⟨y0, y1, y2, rfl, rfl⟩ := hp2
      refine ⟨_, rfl, ⟨⟨_, rfl, ⟨_, _, _, _, _, _, _, _, _, _, _, _, _, rfl⟩⟩, fun _ => ⟨_, rfl, (updL0 _ _).trans (congrArg Int32.toInt64 rfl)⟩⟩, ?_⟩
      exact kk _ _ _ _ _ _ _ _ _ _ _ _ _ _ _ _ _ _ _ _ _ _ _ _ _ _ _ _ _ _ _ _ _ _ _ _ _ _ _ _ _ _ _ _ _ _ _ _ _ _ _ _ _ _ _ _ _ _ _ _ hW hRC hRM hHC hHM hKC hKM hTC hTM
    · refine lc_about hL hj hi hL2 ex1 (pm := 25) (po := 35) (is1 := [35, 0, 1, 2, 11, 12, 13, 14]) (wo_about (o := o) (g := og) (c_X5_about__6 (hB := hB) (b1 := b1) (b2 := b2) (b3 := b3) (b4 := b4) (b5 := b5) (b6 := b6) (b7 := b7) (b8 := b8) (b9 := b9) (b10 := b10) (c1 := c1) (f := f) (σ := σ) (e1 := e1) (e2 := e2) (e3 := e3) (par := par) (fre := fre) (pri := pri) (sls := sls) (drk := drk) (pla := pla) (tks := tks) (t1 := t1) (t2 := t2) (t3 := t3) (hR := hRC) (hW := hW)) (fun v w h => by obtain ⟨z0, z1, z2, z3, z4, z5, z6, z7, z8, z9, rfl, rfl⟩ := h; exact ⟨⟨_, rfl⟩, rfl⟩) rfl) rfl rfl ?_
      rintro v w ⟨r, w1, hp, rfl, rfl⟩
      obtain ⟨z0, z1, z2, z3, z4, z5, z6, z7, z8, z9, hr0, rfl⟩ := hp
      obtain rfl := vinj hr0
      refine ⟨0, _, _, _, [25, 32, 33, 34, 27], by decide, rfl, (c_X6_about (hM := hM) (rf := rf) (x1 := x1) (sz := sz) (x3 := x3) (x4 := x4) (x5 := x5) (ac := cnt) (x7 := x7) (x8 := x8) (x9 := x9) (x10 := x10) (x11 := x11) (sp := sp) (ou := ou) (t1 := u1) (t2 := u2) (t3 := u3) (g := g) (σ := σ) (w := 6) (hR := hRM) (hW := hW) (hw := (by omega))), rfl, rfl, rfl, ?_⟩
      rintro v2 w2 hp2
      obtain ⟨y0, y1, y2, rfl, rfl⟩ := hp2
      refine ⟨_, rfl, ⟨⟨_, rfl, ⟨_, _, _, _, _, _, _, _, _, _, _, _, _, rfl⟩⟩, fun _ => ⟨_, rfl, (updL0 _ _).trans (congrArg Int32.toInt64 rfl)⟩⟩, ?_⟩
      exact kk _ _ _ _ _ _ _ _ _ _ _ _ _ _ _ _ _ _ _ _ _ _ _ _ _ _ _ _ _ _ _ _ _ _ _ _ _ _ _ _ _ _ _ _ _ _ _ _ _ _ _ _ _ _ _ _ _ _ _ _ hW hRC hRM hHC hHM hKC hKM hTC hTM
  · refine lc_about hL hj hi hL2 rfl (pm := 25) (po := 35) (is1 := [35, 0, 1, 2]) (wn_about_A (o := o) (g := og) (c_X5_about__t (hst := hst) (hB := hB) (b1 := b1) (b2 := b2) (b3 := b3) (b4 := b4) (b5 := b5) (b6 := b6) (b7 := b7) (b8 := b8) (b9 := b9) (b10 := b10) (c1 := c1) (f := f) (σ := σ) (w := (xs (i + 1))) (hR := hRC) (hW := hW) (hx := q1)) rfl) rfl rfl ?_
    rintro v w ⟨w1, hp, rfl, rfl⟩
    obtain rfl := hp
    refine ⟨1, _, _, _, [25, 27], by decide, rfl, (c_X6_about__x1 (hM := hM) (rf := rf) (x1 := x1) (sz := sz) (x3 := x3) (x4 := x4) (x5 := x5) (ac := cnt) (x7 := x7) (x8 := x8) (x9 := x9) (x10 := x10) (x11 := x11) (sp := sp) (ou := ou) (g := g) (σ := σ) (w := (xs (i + 1))) (hR := hRM) (hW := hW) (hx := q1)), rfl, rfl, rfl, ?_⟩
    rintro v2 w2 hp2
    obtain ⟨rfl, rfl⟩ := hp2
    refine ⟨_, rfl, ⟨⟨_, rfl, ⟨_, _, _, _, _, _, _, _, _, _, _, _, _, rfl⟩⟩, fun z => absurd z (by decide)⟩, ?_⟩
    exact kk _ _ _ _ _ _ _ _ _ _ _ _ _ _ _ _ _ _ _ _ _ _ _ _ _ _ _ _ _ _ _ _ _ _ _ _ _ _ _ _ _ _ _ _ _ _ _ _ _ _ _ _ _ _ _ _ _ _ _ _ hW hRC hRM hHC hHM hKC hKM hTC hTM
set_option maxRecDepth 100000 in
set_option maxHeartbeats 4000000 in
theorem cs_played {l : Launch} {E : Ev} (hst : l.stackTraces = false) {b L : Nat} {xs : Nat → Int32} {c0 s0 : Nat} {Ω : Nat → Om} (hL : Lw l E b L xs c0 s0 Ω) {j i : Nat} (hj : j < 512) (hi : i + 5 ≤ L) (hL2 : L ≤ 2560) {hB b1 b2 b3 b4 b5 b6 b7 b8 b9 b10 b11 c1 c2 c3 c6 e1 e2 e3 g1 g2 g3 h1 h2 h3 hM x1 x3 x4 x5 x7 x8 x9 x10 x11 o : Nat} (kk : LK E (Ω (j + 1)) (lv0 b hB hM o i) 2187 hB b1 b2 b3 b4 b5 b6 b7 b8 b9 b10 b11 c1 c2 c3 c6 e1 e2 e3 g1 g2 g3 h1 h2 h3 hM x1 x3 x4 x5 x7 x8 x9 x10 x11 o) : LK E (Ω j) (lv0 b hB hM o i) 362 hB b1 b2 b3 b4 b5 b6 b7 b8 b9 b10 b11 c1 c2 c3 c6 e1 e2 e3 g1 g2 g3 h1 h2 h3 hM x1 x3 x4 x5 x7 x8 x9 x10 x11 o := by
  intro od cnt sz par fre pri sls drk pla tks par1 fre1 pri1 sls1 drk1 pla1 tks1 sd st par3 fre3 pri3 sls3 drk3 pla3 tks3 rf sp ou f f2 D K Z tx t1 t2 t3 r1 r2 r3 s1 s2 s3 bl ty g g4 Dm Km Zm u1 u2 u3 og σ hs ks kd sg hW hRC hRM hHC hHM hKC hKM hTC hTM
  have hwP := hW.P
  have hwA := hW.A
  have hwS := hW.S
  have hTz := hTC.1
  have h14 := hHC.1
  by_cases q1 : vI (xs (i + 1)) 20
  · obtain ⟨n, hn, ex1⟩ := vI_of q1 (by omega)
    by_cases q2 : vI (xs (i + 2)) (sP σ)
    · obtain ⟨p, hp, ex2⟩ := vI_of q2 (by omega)
      refine lc_played hL hj hi hL2 ex1 ex2 (pm := 25) (po := 35) (is1 := [35, 0, 1, 2, 11, 12, 13, 14]) (wo_played (o := o) (g := og) (c_X5_played (hB := hB) (b1 := b1) (b2 := b2) (b3 := b3) (b4 := b4) (b5 := b5) (b6 := b6) (b7 := b7) (b8 := b8) (b9 := b9) (b10 := b10) (c1 := c1) (f := f) (σ := σ) (e1 := e1) (e2 := e2) (e3 := e3) (par := par) (fre := fre) (pri := pri) (sls := sls) (drk := drk) (pla := pla) (tks := tks) (t1 := t1) (t2 := t2) (t3 := t3) (n := n) (p := p) (hR := hRC) (hW := hW) (hn := (by omega)) (hp := (by omega))) (fun v w h => by obtain ⟨z0, z1, z2, z3, z4, z5, z6, z7, z8, z9, rfl, rfl⟩ := h; exact ⟨⟨_, rfl⟩, rfl⟩) rfl) rfl rfl ?_
      rintro v w ⟨r, w1, hp, rfl, rfl⟩
      obtain ⟨z0, z1, z2, z3, z4, z5, z6, z7, z8, z9, hr0, rfl⟩ := hp
      obtain rfl := vinj hr0
      refine ⟨0, _, _, _, [25, 32, 33, 34, 27], by decide, rfl, (c_X6_played (hM := hM) (rf := rf) (x1 := x1) (sz := sz) (x3 := x3) (x4 := x4) (x5 := x5) (ac := cnt) (x7 := x7) (x8 := x8) (x9 := x9) (x10 := x10) (x11 := x11) (sp := sp) (ou := ou) (t1 := u1) (t2 := u2) (t3 := u3) (g := g) (σ := σ) (n := n) (p := p) (hR := hRM) (hW := hW) (hn := (by omega)) (hp := (by omega))), rfl, rfl, rfl, ?_⟩
      rintro v2 w2 hp2
      obtain ⟨y0, y1, y2, rfl, rfl⟩ := hp2
      refine ⟨_, rfl, ⟨⟨_, rfl, ⟨_, _, _, _, _, _, _, _, _, _, _, _, _, rfl⟩⟩, fun _ => ⟨_, rfl, (updL0 _ _).trans (congrArg Int32.toInt64 (eqPlayed _ _ _))⟩⟩, ?_⟩
      exact kk _ _ _ _ _ _ _ _ _ _ _ _ _ _ _ _ _ _ _ _ _ _ _ _ _ _ _ _ _ _ _ _ _ _ _ _ _ _ _ _ _ _ _ _ _ _ _ _ _ _ _ _ _ _ _ _ _ _ _ _ hW hRC hRM hHC hHM hKC hKM hTC hTM
    · refine lc_played hL hj hi hL2 ex1 rfl (pm := 25) (po := 35) (is1 := [35, 0, 1, 2]) (wn_played_B (o := o) (g := og) (c_X5_played__tb (hst := hst) (hB := hB) (b1 := b1) (b2 := b2) (b3 := b3) (b4 := b4) (b5 := b5) (b6 := b6) (b7 := b7) (b8 := b8) (b9 := b9) (b10 := b10) (c1 := c1) (f := f) (σ := σ) (n := n) (p := (xs (i + 2))) (hR := hRC) (hW := hW) (h1 := (by omega)) (hx := q2)) rfl) rfl rfl ?_
      rintro v w ⟨w1, hp, rfl, rfl⟩
      obtain rfl := hp
      refine ⟨1, _, _, _, [25, 27], by decide, rfl, (c_X6_played__x1 (hM := hM) (rf := rf) (x1 := x1) (sz := sz) (x3 := x3) (x4 := x4) (x5 := x5) (ac := cnt) (x7 := x7) (x8 := x8) (x9 := x9) (x10 := x10) (x11 := x11) (sp := sp) (ou := ou) (g := g) (σ := σ) (n := (nI n)) (p := (xs (i + 2))) (hR := hRM) (hW := hW) (hx := (fun z => q2 z.2))), rfl, rfl, rfl, ?_⟩
      rintro v2 w2 hp2
      obtain ⟨rfl, rfl⟩ := hp2
      refine ⟨_, rfl, ⟨⟨_, rfl, ⟨_, _, _, _, _, _, _, _, _, _, _, _, _, rfl⟩⟩, fun z => absurd z (by decide)⟩, ?_⟩
      exact kk _ _ _ _ _ _ _ _ _ _ _ _ _ _ _ _ _ _ _ _ _ _ _ _ _ _ _ _ _ _ _ _ _ _ _ _ _ _ _ _ _ _ _ _ _ _ _ _ _ _ _ _ _ _ _ _ _ _ _ _ hW hRC hRM hHC hHM hKC hKM hTC hTM
  · refine lc_played hL hj hi hL2 rfl rfl (pm := 25) (po := 35) (is1 := [35, 0, 1, 2]) (wn_played_B (o := o) (g := og) (c_X5_played__ta (hst := hst) (hB := hB) (b1 := b1) (b2 := b2) (b3 := b3) (b4 := b4) (b5 := b5) (b6 := b6) (b7 := b7) (b8 := b8) (b9 := b9) (b10 := b10) (c1 := c1) (f := f) (σ := σ) (n := (xs (i + 1))) (p := (xs (i + 2))) (hR := hRC) (hW := hW) (hx := q1)) rfl) rfl rfl ?_
    rintro v w ⟨w1, hp, rfl, rfl⟩
    obtain rfl := hp
    refine ⟨1, _, _, _, [25, 27], by decide, rfl, (c_X6_played__x1 (hM := hM) (rf := rf) (x1 := x1) (sz := sz) (x3 := x3) (x4 := x4) (x5 := x5) (ac := cnt) (x7 := x7) (x8 := x8) (x9 := x9) (x10 := x10) (x11 := x11) (sp := sp) (ou := ou) (g := g) (σ := σ) (n := (xs (i + 1))) (p := (xs (i + 2))) (hR := hRM) (hW := hW) (hx := (fun z => q1 z.1))), rfl, rfl, rfl, ?_⟩
    rintro v2 w2 hp2
    obtain ⟨rfl, rfl⟩ := hp2
    refine ⟨_, rfl, ⟨⟨_, rfl, ⟨_, _, _, _, _, _, _, _, _, _, _, _, _, rfl⟩⟩, fun z => absurd z (by decide)⟩, ?_⟩
    exact kk _ _ _ _ _ _ _ _ _ _ _ _ _ _ _ _ _ _ _ _ _ _ _ _ _ _ _ _ _ _ _ _ _ _ _ _ _ _ _ _ _ _ _ _ _ _ _ _ _ _ _ _ _ _ _ _ _ _ _ _ hW hRC hRM hHC hHM hKC hKM hTC hTM
set_option maxRecDepth 100000 in
set_option maxHeartbeats 4000000 in
theorem cs_bill {l : Launch} {E : Ev} (hst : l.stackTraces = false) {b L : Nat} {xs : Nat → Int32} {c0 s0 : Nat} {Ω : Nat → Om} (hL : Lw l E b L xs c0 s0 Ω) {j i : Nat} (hj : j < 512) (hi : i + 5 ≤ L) (hL2 : L ≤ 2560) {hB b1 b2 b3 b4 b5 b6 b7 b8 b9 b10 b11 c1 c2 c3 c6 e1 e2 e3 g1 g2 g3 h1 h2 h3 hM x1 x3 x4 x5 x7 x8 x9 x10 x11 o : Nat} (kk : LK E (Ω (j + 1)) (lv0 b hB hM o i) 2187 hB b1 b2 b3 b4 b5 b6 b7 b8 b9 b10 b11 c1 c2 c3 c6 e1 e2 e3 g1 g2 g3 h1 h2 h3 hM x1 x3 x4 x5 x7 x8 x9 x10 x11 o) : LK E (Ω j) (lv0 b hB hM o i) 430 hB b1 b2 b3 b4 b5 b6 b7 b8 b9 b10 b11 c1 c2 c3 c6 e1 e2 e3 g1 g2 g3 h1 h2 h3 hM x1 x3 x4 x5 x7 x8 x9 x10 x11 o := by
  intro od cnt sz par fre pri sls drk pla tks par1 fre1 pri1 sls1 drk1 pla1 tks1 sd st par3 fre3 pri3 sls3 drk3 pla3 tks3 rf sp ou f f2 D K Z tx t1 t2 t3 r1 r2 r3 s1 s2 s3 bl ty g g4 Dm Km Zm u1 u2 u3 og σ hs ks kd sg hW hRC hRM hHC hHM hKC hKM hTC hTM
  have hwP := hW.P
  have hwA := hW.A
  have hwS := hW.S
  have hTz := hTC.1
  have h14 := hHC.1
  by_cases q1 : vI (xs (i + 1)) 20
  · obtain ⟨n, hn, ex1⟩ := vI_of q1 (by omega)
    by_cases q2 : vI (xs (i + 2)) (sP σ)
    · obtain ⟨p, hp, ex2⟩ := vI_of q2 (by omega)
      by_cases q3 : vI (xs (i + 3)) 4
      · obtain ⟨w, hw, ex3⟩ := vI_of q3 (by omega)
        rcases (by omega : w = 0 ∨ w = 1 ∨ w = 2 ∨ w = 3) with rfl | rfl | rfl | rfl
        · refine lc_bill hL hj hi hL2 ex1 ex2 ex3 (pm := 25) (po := 35) (is1 := [35, 0, 1, 2, 11, 12, 13, 14]) (wo_bill (o := o) (g := og) (c_X5_bill__0 (hB := hB) (b1 := b1) (b2 := b2) (b3 := b3) (b4 := b4) (b5 := b5) (b6 := b6) (b7 := b7) (b8 := b8) (b9 := b9) (b10 := b10) (c1 := c1) (f := f) (σ := σ) (e1 := e1) (e2 := e2) (e3 := e3) (par := par) (fre := fre) (pri := pri) (sls := sls) (drk := drk) (pla := pla) (tks := tks) (t1 := t1) (t2 := t2) (t3 := t3) (n := n) (p := p) (hR := hRC) (hW := hW) (hn := (by omega)) (hp := (by omega))) (fun v w h => by obtain ⟨z0, z1, z2, z3, z4, z5, z6, z7, z8, z9, rfl, rfl⟩ := h; exact ⟨⟨_, rfl⟩, rfl⟩) rfl) rfl rfl ?_
          rintro v w ⟨r, w1, hp, rfl, rfl⟩
          obtain ⟨z0, z1, z2, z3, z4, z5, z6, z7, z8, z9, hr0, rfl⟩ := hp
          obtain rfl := vinj hr0
          refine ⟨0, _, _, _, [25, 32, 33, 34, 27], by decide, rfl, (c_X6_bill (hM := hM) (rf := rf) (x1 := x1) (sz := sz) (x3 := x3) (x4 := x4) (x5 := x5) (ac := cnt) (x7 := x7) (x8 := x8) (x9 := x9) (x10 := x10) (x11 := x11) (sp := sp) (ou := ou) (t1 := u1) (t2 := u2) (t3 := u3) (g := g) (σ := σ) (n := n) (p := p) (w := 0) (hR := hRM) (hW := hW) (hn := (by omega)) (hp := (by omega)) (hw := (by omega))), rfl, rfl, rfl, ?_⟩
          rintro v2 w2 hp2
          obtain ⟨y0, y1, y2, rfl, rfl⟩ := hp2
          refine ⟨_, rfl, ⟨⟨_, rfl, ⟨_, _, _, _, _, _, _, _, _, _, _, _, _, rfl⟩⟩, fun _ => ⟨_, rfl, (updL0 _ _).trans (congrArg Int32.toInt64 rfl)⟩⟩, ?_⟩
          exact kk _ _ _ _ _ _ _ _ _ _ _ _ _ _ _ _ _ _ _ _ _ _ _ _ _ _ _ _ _ _ _ _ _ _ _ _ _ _ _ _ _ _ _ _ _ _ _ _ _ _ _ _ _ _ _ _ _ _ _ _ hW hRC hRM hHC hHM hKC hKM hTC hTM
        · refine lc_bill hL hj hi hL2 ex1 ex2 ex3 (pm := 25) (po := 35) (is1 := [35, 0, 1, 2, 11, 12, 13, 14]) (wo_bill (o := o) (g := og) (c_X5_bill__1 (hB := hB) (b1 := b1) (b2 := b2) (b3 := b3) (b4 := b4) (b5 := b5) (b6 := b6) (b7 := b7) (b8 := b8) (b9 := b9) (b10 := b10) (c1 := c1) (f := f) (σ := σ) (e1 := e1) (e2 := e2) (e3 := e3) (par := par) (fre := fre) (pri := pri) (sls := sls) (drk := drk) (pla := pla) (tks := tks) (t1 := t1) (t2 := t2) (t3 := t3) (n := n) (p := p) (hR := hRC) (hW := hW) (hn := (by omega)) (hp := (by omega))) (fun v w h => by obtain ⟨z0, z1, z2, z3, z4, z5, z6, z7, z8, z9, rfl, rfl⟩ := h; exact ⟨⟨_, rfl⟩, rfl⟩) rfl) rfl rfl ?_
          rintro v w ⟨r, w1, hp, rfl, rfl⟩
          obtain ⟨z0, z1, z2, z3, z4, z5, z6, z7, z8, z9, hr0, rfl⟩ := hp
          obtain rfl := vinj hr0
          refine ⟨0, _, _, _, [25, 32, 33, 34, 27], by decide, rfl, (c_X6_bill (hM := hM) (rf := rf) (x1 := x1) (sz := sz) (x3 := x3) (x4 := x4) (x5 := x5) (ac := cnt) (x7 := x7) (x8 := x8) (x9 := x9) (x10 := x10) (x11 := x11) (sp := sp) (ou := ou) (t1 := u1) (t2 := u2) (t3 := u3) (g := g) (σ := σ) (n := n) (p := p) (w := 1) (hR := hRM) (hW := hW) (hn := (by omega)) (hp := (by omega)) (hw := (by omega))), rfl, rfl, rfl, ?_⟩
          rintro v2 w2 hp2
          obtain ⟨y0, y1, y2, rfl, rfl⟩ := hp2
          refine ⟨_, rfl, ⟨⟨_, rfl, ⟨_, _, _, _, _, _, _, _, _, _, _, _, _, rfl⟩⟩, fun _ => ⟨_, rfl, (updL0 _ _).trans (congrArg Int32.toInt64 rfl)⟩⟩, ?_⟩
          exact kk _ _ _ _ _ _ _ _ _ _ _ _ _ _ _ _ _ _ _ _ _ _ _ _ _ _ _ _ _ _ _ _ _ _ _ _ _ _ _ _ _ _ _ _ _ _ _ _ _ _ _ _ _ _ _ _ _ _ _ _ hW hRC hRM hHC hHM hKC hKM hTC hTM
        · refine lc_bill hL hj hi hL2 ex1 ex2 ex3 (pm := 25) (po := 35) (is1 := [35, 0, 1, 2, 11, 12, 13, 14]) (wo_bill (o := o) (g := og) (c_X5_bill__2 (hB := hB) (b1 := b1) (b2 := b2) (b3 := b3) (b4 := b4) (b5 := b5) (b6 := b6) (b7 := b7) (b8 := b8) (b9 := b9) (b10 := b10) (c1 := c1) (f := f) (σ := σ) (e1 := e1) (e2 := e2) (e3 := e3) (par := par) (fre := fre) (pri := pri) (sls := sls) (drk := drk) (pla := pla) (tks := tks) (t1 := t1) (t2 := t2) (t3 := t3) (n := n) (p := p) (hR := hRC) (hW := hW) (hn := (by omega)) (hp := (by omega))) (fun v w h => by obtain ⟨z0, z1, z2, z3, z4, z5, z6, z7, z8, z9, rfl, rfl⟩ := h; exact ⟨⟨_, rfl⟩, rfl⟩) rfl) rfl rfl ?_
          rintro v w ⟨r, w1, hp, rfl, rfl⟩
          obtain ⟨z0, z1, z2, z3, z4, z5, z6, z7, z8, z9, hr0, rfl⟩ := hp
          obtain rfl := vinj hr0
          refine ⟨0, _, _, _, [25, 32, 33, 34, 27], by decide, rfl, (c_X6_bill (hM := hM) (rf := rf) (x1 := x1) (sz := sz) (x3 := x3) (x4 := x4) (x5 := x5) (ac := cnt) (x7 := x7) (x8 := x8) (x9 := x9) (x10 := x10) (x11 := x11) (sp := sp) (ou := ou) (t1 := u1) (t2 := u2) (t3 := u3) (g := g) (σ := σ) (n := n) (p := p) (w := 2) (hR := hRM) (hW := hW) (hn := (by omega)) (hp := (by omega)) (hw := (by omega))), rfl, rfl, rfl, ?_⟩
          rintro v2 w2 hp2
          obtain ⟨y0, y1, y2, rfl, rfl⟩ := hp2
          refine ⟨_, rfl, ⟨⟨_, rfl, ⟨_, _, _, _, _, _, _, _, _, _, _, _, _, rfl⟩⟩, fun _ => ⟨_, rfl, (updL0 _ _).trans (congrArg Int32.toInt64 rfl)⟩⟩, ?_⟩
          exact kk _ _ _ _ _ _ _ _ _ _ _ _ _ _ _ _ _ _ _ _ _ _ _ _ _ _ _ _ _ _ _ _ _ _ _ _ _ _ _ _ _ _ _ _ _ _ _ _ _ _ _ _ _ _ _ _ _ _ _ _ hW hRC hRM hHC hHM hKC hKM hTC hTM
        · refine lc_bill hL hj hi hL2 ex1 ex2 ex3 (pm := 25) (po := 35) (is1 := [35, 0, 1, 2, 11, 12, 13, 14]) (wo_bill (o := o) (g := og) (c_X5_bill__3 (hB := hB) (b1 := b1) (b2 := b2) (b3 := b3) (b4 := b4) (b5 := b5) (b6 := b6) (b7 := b7) (b8 := b8) (b9 := b9) (b10 := b10) (c1 := c1) (f := f) (σ := σ) (e1 := e1) (e2 := e2) (e3 := e3) (par := par) (fre := fre) (pri := pri) (sls := sls) (drk := drk) (pla := pla) (tks := tks) (t1 := t1) (t2 := t2) (t3 := t3) (n := n) (p := p) (hR := hRC) (hW := hW) (hn := (by omega)) (hp := (by omega))) (fun v w h => by obtain ⟨z0, z1, z2, z3, z4, z5, z6, z7, z8, z9, rfl, rfl⟩ := h; exact ⟨⟨_, rfl⟩, rfl⟩) rfl) rfl rfl ?_
          rintro v w ⟨r, w1, hp, rfl, rfl⟩
          obtain ⟨z0, z1, z2, z3, z4, z5, z6, z7, z8, z9, hr0, rfl⟩ := hp
          obtain rfl := vinj hr0
          refine ⟨0, _, _, _, [25, 32, 33, 34, 27], by decide, rfl, (c_X6_bill (hM := hM) (rf := rf) (x1 := x1) (sz := sz) (x3 := x3) (x4 := x4) (x5 := x5) (ac := cnt) (x7 := x7) (x8 := x8) (x9 := x9) (x10 := x10) (x11 := x11) (sp := sp) (ou := ou) (t1 := u1) (t2 := u2) (t3 := u3) (g := g) (σ := σ) (n := n) (p := p) (w := 3) (hR := hRM) (hW := hW) (hn := (by omega)) (hp := (by omega)) (hw := (by omega))), rfl, rfl, rfl, ?_⟩
          rintro v2 w2 hp2
          obtain ⟨y0, y1, y2, rfl, rfl⟩ := hp2
          refine ⟨_, rfl, ⟨⟨_, rfl, ⟨_, _, _, _, _, _, _, _, _, _, _, _, _, rfl⟩⟩, fun _ => ⟨_, rfl, (updL0 _ _).trans (congrArg Int32.toInt64 (congrArg nI (slC_9 _ _ _ _)))⟩⟩, ?_⟩
          exact kk _ _ _ _ _ _ _ _ _ _ _ _ _ _ _ _ _ _ _ _ _ _ _ _ _ _ _ _ _ _ _ _ _ _ _ _ _ _ _ _ _ _ _ _ _ _ _ _ _ _ _ _ _ _ _ _ _ _ _ _ hW hRC hRM hHC hHM hKC hKM hTC hTM
      · refine lc_bill hL hj hi hL2 ex1 ex2 rfl (pm := 25) (po := 35) (is1 := [35, 0, 1, 2, 11, 12, 13, 14]) (wn_bill_A (o := o) (g := og) (c_X5_bill__tc (hst := hst) (hB := hB) (b1 := b1) (b2 := b2) (b3 := b3) (b4 := b4) (b5 := b5) (b6 := b6) (b7 := b7) (b8 := b8) (b9 := b9) (b10 := b10) (c1 := c1) (f := f) (σ := σ) (e1 := e1) (e2 := e2) (e3 := e3) (par := par) (fre := fre) (pri := pri) (sls := sls) (drk := drk) (pla := pla) (tks := tks) (t1 := t1) (t2 := t2) (t3 := t3) (n := n) (p := p) (w := (xs (i + 3))) (hR := hRC) (hW := hW) (hn := (by omega)) (hp := (by omega)) (hx := q3)) rfl) rfl rfl ?_
        rintro v w ⟨w1, hp, rfl, rfl⟩
        obtain ⟨z0, z1, z2, z3, z4, z5, z6, z7, z8, z9, rfl⟩ := hp
        refine ⟨2, _, _, _, [25, 27], by decide, rfl, (c_X6_bill__x2 (hM := hM) (rf := rf) (x1 := x1) (sz := sz) (x3 := x3) (x4 := x4) (x5 := x5) (ac := cnt) (x7 := x7) (x8 := x8) (x9 := x9) (x10 := x10) (x11 := x11) (sp := sp) (ou := ou) (g := g) (σ := σ) (n := n) (p := p) (w := (xs (i + 3))) (hR := hRM) (hW := hW) (hn := (by omega)) (hp := (by omega)) (hx := q3)), rfl, rfl, rfl, ?_⟩
        rintro v2 w2 hp2
        obtain ⟨rfl, rfl⟩ := hp2
        refine ⟨_, rfl, ⟨⟨_, rfl, ⟨_, _, _, _, _, _, _, _, _, _, _, _, _, rfl⟩⟩, fun z => absurd z (by decide)⟩, ?_⟩
        exact kk _ _ _ _ _ _ _ _ _ _ _ _ _ _ _ _ _ _ _ _ _ _ _ _ _ _ _ _ _ _ _ _ _ _ _ _ _ _ _ _ _ _ _ _ _ _ _ _ _ _ _ _ _ _ _ _ _ _ _ _ hW hRC hRM hHC hHM hKC hKM hTC hTM
    · refine lc_bill hL hj hi hL2 ex1 rfl rfl (pm := 25) (po := 35) (is1 := [35, 0, 1, 2]) (wn_bill_B (o := o) (g := og) (c_X5_bill__tb (hst := hst) (hB := hB) (b1 := b1) (b2 := b2) (b3 := b3) (b4 := b4) (b5 := b5) (b6 := b6) (b7 := b7) (b8 := b8) (b9 := b9) (b10 := b10) (c1 := c1) (f := f) (σ := σ) (n := n) (p := (xs (i + 2))) (w := (xs (i + 3))) (hR := hRC) (hW := hW) (h1 := (by omega)) (hx := q2)) rfl) rfl rfl ?_
      rintro v w ⟨w1, hp, rfl, rfl⟩
      obtain rfl := hp
      refine ⟨1, _, _, _, [25, 27], by decide, rfl, (c_X6_bill__x1 (hM := hM) (rf := rf) (x1 := x1) (sz := sz) (x3 := x3) (x4 := x4) (x5 := x5) (ac := cnt) (x7 := x7) (x8 := x8) (x9 := x9) (x10 := x10) (x11 := x11) (sp := sp) (ou := ou) (g := g) (σ := σ) (n := (nI n)) (p := (xs (i + 2))) (w := (xs (i + 3))) (hR := hRM) (hW := hW) (hx := (fun z => q2 z.2))), rfl, rfl, rfl, ?_⟩
      rintro v2 w2 hp2
      obtain ⟨rfl, rfl⟩ := hp2
      refine ⟨_, rfl, ⟨⟨_, rfl, ⟨_, _, _, _, _, _, _, _, _, _, _, _, _, rfl⟩⟩, fun z => absurd z (by decide)⟩, ?_⟩
      exact kk _ _ _ _ _ _ _ _ _ _ _ _ _ _ _ _ _ _ _ _ _ _ _ _ _ _ _ _ _ _ _ _ _ _ _ _ _ _ _ _ _ _ _ _ _ _ _ _ _ _ _ _ _ _ _ _ _ _ _ _ hW hRC hRM hHC hHM hKC hKM hTC hTM
  · refine lc_bill hL hj hi hL2 rfl rfl rfl (pm := 25) (po := 35) (is1 := [35, 0, 1, 2]) (wn_bill_B (o := o) (g := og) (c_X5_bill__ta (hst := hst) (hB := hB) (b1 := b1) (b2 := b2) (b3 := b3) (b4 := b4) (b5 := b5) (b6 := b6) (b7 := b7) (b8 := b8) (b9 := b9) (b10 := b10) (c1 := c1) (f := f) (σ := σ) (n := (xs (i + 1))) (p := (xs (i + 2))) (w := (xs (i + 3))) (hR := hRC) (hW := hW) (hx := q1)) rfl) rfl rfl ?_
    rintro v w ⟨w1, hp, rfl, rfl⟩
    obtain rfl := hp
    refine ⟨1, _, _, _, [25, 27], by decide, rfl, (c_X6_bill__x1 (hM := hM) (rf := rf) (x1 := x1) (sz := sz) (x3 := x3) (x4 := x4) (x5 := x5) (ac := cnt) (x7 := x7) (x8 := x8) (x9 := x9) (x10 := x10) (x11 := x11) (sp := sp) (ou := ou) (g := g) (σ := σ) (n := (xs (i + 1))) (p := (xs (i + 2))) (w := (xs (i + 3))) (hR := hRM) (hW := hW) (hx := (fun z => q1 z.1))), rfl, rfl, rfl, ?_⟩
    rintro v2 w2 hp2
    obtain ⟨rfl, rfl⟩ := hp2
    refine ⟨_, rfl, ⟨⟨_, rfl, ⟨_, _, _, _, _, _, _, _, _, _, _, _, _, rfl⟩⟩, fun z => absurd z (by decide)⟩, ?_⟩
    exact kk _ _ _ _ _ _ _ _ _ _ _ _ _ _ _ _ _ _ _ _ _ _ _ _ _ _ _ _ _ _ _ _ _ _ _ _ _ _ _ _ _ _ _ _ _ _ _ _ _ _ _ _ _ _ _ _ _ _ _ _ hW hRC hRM hHC hHM hKC hKM hTC hTM
set_option maxRecDepth 100000 in
set_option maxHeartbeats 4000000 in
theorem cs_night {l : Launch} {E : Ev} (hst : l.stackTraces = false) {b L : Nat} {xs : Nat → Int32} {c0 s0 : Nat} {Ω : Nat → Om} (hL : Lw l E b L xs c0 s0 Ω) {j i : Nat} (hj : j < 512) (hi : i + 5 ≤ L) (hL2 : L ≤ 2560) {hB b1 b2 b3 b4 b5 b6 b7 b8 b9 b10 b11 c1 c2 c3 c6 e1 e2 e3 g1 g2 g3 h1 h2 h3 hM x1 x3 x4 x5 x7 x8 x9 x10 x11 o : Nat} (kk : LK E (Ω (j + 1)) (lv0 b hB hM o i) 2187 hB b1 b2 b3 b4 b5 b6 b7 b8 b9 b10 b11 c1 c2 c3 c6 e1 e2 e3 g1 g2 g3 h1 h2 h3 hM x1 x3 x4 x5 x7 x8 x9 x10 x11 o) : LK E (Ω j) (lv0 b hB hM o i) 510 hB b1 b2 b3 b4 b5 b6 b7 b8 b9 b10 b11 c1 c2 c3 c6 e1 e2 e3 g1 g2 g3 h1 h2 h3 hM x1 x3 x4 x5 x7 x8 x9 x10 x11 o := by
  intro od cnt sz par fre pri sls drk pla tks par1 fre1 pri1 sls1 drk1 pla1 tks1 sd st par3 fre3 pri3 sls3 drk3 pla3 tks3 rf sp ou f f2 D K Z tx t1 t2 t3 r1 r2 r3 s1 s2 s3 bl ty g g4 Dm Km Zm u1 u2 u3 og σ hs ks kd sg hW hRC hRM hHC hHM hKC hKM hTC hTM
  have hwP := hW.P
  have hwA := hW.A
  have hwS := hW.S
  have hTz := hTC.1
  have h14 := hHC.1
  by_cases q1 : vI (xs (i + 1)) 20
  · obtain ⟨n, hn, ex1⟩ := vI_of q1 (by omega)
    by_cases q2 : vI (xs (i + 2)) 5
    · obtain ⟨w, hw, ex2⟩ := vI_of q2 (by omega)
      rcases (by omega : w = 0 ∨ w = 1 ∨ w = 2 ∨ w = 3 ∨ w = 4) with rfl | rfl | rfl | rfl | rfl
      · refine lc_night hL hj hi hL2 ex1 ex2 (pm := 25) (po := 35) (is1 := [35, 0, 1, 2, 11, 12, 13, 14]) (wo_night (o := o) (g := og) (c_X5_night__0 (hB := hB) (b1 := b1) (b2 := b2) (b3 := b3) (b4 := b4) (b5 := b5) (b6 := b6) (b7 := b7) (b8 := b8) (b9 := b9) (b10 := b10) (c1 := c1) (f := f) (σ := σ) (e1 := e1) (e2 := e2) (e3 := e3) (par := par) (fre := fre) (pri := pri) (sls := sls) (drk := drk) (pla := pla) (tks := tks) (t1 := t1) (t2 := t2) (t3 := t3) (n := n) (hR := hRC) (hW := hW) (hn := (by omega))) (fun v w h => by obtain ⟨z0, z1, z2, z3, z4, z5, z6, z7, z8, z9, rfl, rfl⟩ := h; exact ⟨⟨_, rfl⟩, rfl⟩) rfl) rfl rfl ?_
        rintro v w ⟨r, w1, hp, rfl, rfl⟩
        obtain ⟨z0, z1, z2, z3, z4, z5, z6, z7, z8, z9, hr0, rfl⟩ := hp
        obtain rfl := vinj hr0
        refine ⟨0, _, _, _, [25, 32, 33, 34, 27], by decide, rfl, (c_X6_night (hM := hM) (rf := rf) (x1 := x1) (sz := sz) (x3 := x3) (x4 := x4) (x5 := x5) (ac := cnt) (x7 := x7) (x8 := x8) (x9 := x9) (x10 := x10) (x11 := x11) (sp := sp) (ou := ou) (t1 := u1) (t2 := u2) (t3 := u3) (g := g) (σ := σ) (n := n) (w := 0) (hR := hRM) (hW := hW) (hn := (by omega)) (hw := (by omega))), rfl, rfl, rfl, ?_⟩
        rintro v2 w2 hp2
        obtain ⟨y0, y1, y2, rfl, rfl⟩ := hp2
        refine ⟨_, rfl, ⟨⟨_, rfl, ⟨_, _, _, _, _, _, _, _, _, _, _, _, _, rfl⟩⟩, fun _ => ⟨_, rfl, (updL0 _ _).trans (congrArg Int32.toInt64 rfl)⟩⟩, ?_⟩
        exact kk _ _ _ _ _ _ _ _ _ _ _ _ _ _ _ _ _ _ _ _ _ _ _ _ _ _ _ _ _ _ _ _ _ _ _ _ _ _ _ _ _ _ _ _ _ _ _ _ _ _ _ _ _ _ _ _ _ _ _ _ hW hRC hRM hHC hHM hKC hKM hTC hTM
      · refine lc_night hL hj hi hL2 ex1 ex2 (pm := 25) (po := 35) (is1 := [35, 0, 1, 2, 11, 12, 13, 14]) (wo_night (o := o) (g := og) (c_X5_night__1 (hB := hB) (b1 := b1) (b2 := b2) (b3 := b3) (b4 := b4) (b5 := b5) (b6 := b6) (b7 := b7) (b8 := b8) (b9 := b9) (b10 := b10) (c1 := c1) (f := f) (σ := σ) (e1 := e1) (e2 := e2) (e3 := e3) (par := par) (fre := fre) (pri := pri) (sls := sls) (drk := drk) (pla := pla) (tks := tks) (t1 := t1) (t2 := t2) (t3 := t3) (n := n) (hR := hRC) (hW := hW) (hn := (by omega))) (fun v w h => by obtain ⟨z0, z1, z2, z3, z4, z5, z6, z7, z8, z9, rfl, rfl⟩ := h; exact ⟨⟨_, rfl⟩, rfl⟩) rfl) rfl rfl ?_
        rintro v w ⟨r, w1, hp, rfl, rfl⟩
        obtain ⟨z0, z1, z2, z3, z4, z5, z6, z7, z8, z9, hr0, rfl⟩ := hp
        obtain rfl := vinj hr0
        refine ⟨0, _, _, _, [25, 32, 33, 34, 27], by decide, rfl, (c_X6_night (hM := hM) (rf := rf) (x1 := x1) (sz := sz) (x3 := x3) (x4 := x4) (x5 := x5) (ac := cnt) (x7 := x7) (x8 := x8) (x9 := x9) (x10 := x10) (x11 := x11) (sp := sp) (ou := ou) (t1 := u1) (t2 := u2) (t3 := u3) (g := g) (σ := σ) (n := n) (w := 1) (hR := hRM) (hW := hW) (hn := (by omega)) (hw := (by omega))), rfl, rfl, rfl, ?_⟩
        rintro v2 w2 hp2
        obtain ⟨y0, y1, y2, rfl, rfl⟩ := hp2
        refine ⟨_, rfl, ⟨⟨_, rfl, ⟨_, _, _, _, _, _, _, _, _, _, _, _, _, rfl⟩⟩, fun _ => ⟨_, rfl, (updL0 _ _).trans (congrArg Int32.toInt64 rfl)⟩⟩, ?_⟩
        exact kk _ _ _ _ _ _ _ _ _ _ _ _ _ _ _ _ _ _ _ _ _ _ _ _ _ _ _ _ _ _ _ _ _ _ _ _ _ _ _ _ _ _ _ _ _ _ _ _ _ _ _ _ _ _ _ _ _ _ _ _ hW hRC hRM hHC hHM hKC hKM hTC hTM
      · refine lc_night hL hj hi hL2 ex1 ex2 (pm := 25) (po := 35) (is1 := [35, 0, 1, 2, 11, 12, 13, 14]) (wo_night (o := o) (g := og) (c_X5_night__2 (hB := hB) (b1 := b1) (b2 := b2) (b3 := b3) (b4 := b4) (b5 := b5) (b6 := b6) (b7 := b7) (b8 := b8) (b9 := b9) (b10 := b10) (c1 := c1) (f := f) (σ := σ) (e1 := e1) (e2 := e2) (e3 := e3) (par := par) (fre := fre) (pri := pri) (sls := sls) (drk := drk) (pla := pla) (tks := tks) (t1 := t1) (t2 := t2) (t3 := t3) (n := n) (hR := hRC) (hW := hW) (hn := (by omega))) (fun v w h => by obtain ⟨z0, z1, z2, z3, z4, z5, z6, z7, z8, z9, rfl, rfl⟩ := h; exact ⟨⟨_, rfl⟩, rfl⟩) rfl) rfl rfl ?_
        rintro v w ⟨r, w1, hp, rfl, rfl⟩
        obtain ⟨z0, z1, z2, z3, z4, z5, z6, z7, z8, z9, hr0, rfl⟩ := hp
        obtain rfl := vinj hr0
        refine ⟨0, _, _, _, [25, 32, 33, 34, 27], by decide, rfl, (c_X6_night (hM := hM) (rf := rf) (x1 := x1) (sz := sz) (x3 := x3) (x4 := x4) (x5 := x5) (ac := cnt) (x7 := x7) (x8 := x8) (x9 := x9) (x10 := x10) (x11 := x11) (sp := sp) (ou := ou) (t1 := u1) (t2 := u2) (t3 := u3) (g := g) (σ := σ) (n := n) (w := 2) (hR := hRM) (hW := hW) (hn := (by omega)) (hw := (by omega))), rfl, rfl, rfl, ?_⟩
        rintro v2 w2 hp2
        obtain ⟨y0, y1, y2, rfl, rfl⟩ := hp2
        refine ⟨_, rfl, ⟨⟨_, rfl, ⟨_, _, _, _, _, _, _, _, _, _, _, _, _, rfl⟩⟩, fun _ => ⟨_, rfl, (updL0 _ _).trans (congrArg Int32.toInt64 (congrArg nI (bmA hW).symm))⟩⟩, ?_⟩
        exact kk _ _ _ _ _ _ _ _ _ _ _ _ _ _ _ _ _ _ _ _ _ _ _ _ _ _ _ _ _ _ _ _ _ _ _ _ _ _ _ _ _ _ _ _ _ _ _ _ _ _ _ _ _ _ _ _ _ _ _ _ hW hRC hRM hHC hHM hKC hKM hTC hTM
      · refine lc_night hL hj hi hL2 ex1 ex2 (pm := 25) (po := 35) (is1 := [35, 0, 1, 2, 11, 12, 13, 14]) (wo_night (o := o) (g := og) (c_X5_night__3 (hB := hB) (b1 := b1) (b2 := b2) (b3 := b3) (b4 := b4) (b5 := b5) (b6 := b6) (b7 := b7) (b8 := b8) (b9 := b9) (b10 := b10) (c1 := c1) (f := f) (σ := σ) (e1 := e1) (e2 := e2) (e3 := e3) (par := par) (fre := fre) (pri := pri) (sls := sls) (drk := drk) (pla := pla) (tks := tks) (t1 := t1) (t2 := t2) (t3 := t3) (n := n) (hR := hRC) (hW := hW) (hn := (by omega))) (fun v w h => by obtain ⟨z0, z1, z2, z3, z4, z5, z6, z7, z8, z9, rfl, rfl⟩ := h; exact ⟨⟨_, rfl⟩, rfl⟩) rfl) rfl rfl ?_
        rintro v w ⟨r, w1, hp, rfl, rfl⟩
        obtain ⟨z0, z1, z2, z3, z4, z5, z6, z7, z8, z9, hr0, rfl⟩ := hp
        obtain rfl := vinj hr0
        refine ⟨0, _, _, _, [25, 32, 33, 34, 27], by decide, rfl, (c_X6_night (hM := hM) (rf := rf) (x1 := x1) (sz := sz) (x3 := x3) (x4 := x4) (x5 := x5) (ac := cnt) (x7 := x7) (x8 := x8) (x9 := x9) (x10 := x10) (x11 := x11) (sp := sp) (ou := ou) (t1 := u1) (t2 := u2) (t3 := u3) (g := g) (σ := σ) (n := n) (w := 3) (hR := hRM) (hW := hW) (hn := (by omega)) (hw := (by omega))), rfl, rfl, rfl, ?_⟩
        rintro v2 w2 hp2
        obtain ⟨y0, y1, y2, rfl, rfl⟩ := hp2
        refine ⟨_, rfl, ⟨⟨_, rfl, ⟨_, _, _, _, _, _, _, _, _, _, _, _, _, rfl⟩⟩, fun _ => ⟨_, rfl, (updL0 _ _).trans (congrArg Int32.toInt64 rfl)⟩⟩, ?_⟩
        exact kk _ _ _ _ _ _ _ _ _ _ _ _ _ _ _ _ _ _ _ _ _ _ _ _ _ _ _ _ _ _ _ _ _ _ _ _ _ _ _ _ _ _ _ _ _ _ _ _ _ _ _ _ _ _ _ _ _ _ _ _ hW hRC hRM hHC hHM hKC hKM hTC hTM
      · refine lc_night hL hj hi hL2 ex1 ex2 (pm := 25) (po := 35) (is1 := [35, 0, 1, 2, 11, 12, 13, 14]) (wo_night (o := o) (g := og) (c_X5_night__4 (hB := hB) (b1 := b1) (b2 := b2) (b3 := b3) (b4 := b4) (b5 := b5) (b6 := b6) (b7 := b7) (b8 := b8) (b9 := b9) (b10 := b10) (c1 := c1) (f := f) (σ := σ) (e1 := e1) (e2 := e2) (e3 := e3) (par := par) (fre := fre) (pri := pri) (sls := sls) (drk := drk) (pla := pla) (tks := tks) (t1 := t1) (t2 := t2) (t3 := t3) (n := n) (hR := hRC) (hW := hW) (hn := (by omega))) (fun v w h => by obtain ⟨z0, z1, z2, z3, z4, z5, z6, z7, z8, z9, rfl, rfl⟩ := h; exact ⟨⟨_, rfl⟩, rfl⟩) rfl) rfl rfl ?_
        rintro v w ⟨r, w1, hp, rfl, rfl⟩
        obtain ⟨z0, z1, z2, z3, z4, z5, z6, z7, z8, z9, hr0, rfl⟩ := hp
        obtain rfl := vinj hr0
        refine ⟨0, _, _, _, [25, 32, 33, 34, 27], by decide, rfl, (c_X6_night (hM := hM) (rf := rf) (x1 := x1) (sz := sz) (x3 := x3) (x4 := x4) (x5 := x5) (ac := cnt) (x7 := x7) (x8 := x8) (x9 := x9) (x10 := x10) (x11 := x11) (sp := sp) (ou := ou) (t1 := u1) (t2 := u2) (t3 := u3) (g := g) (σ := σ) (n := n) (w := 4) (hR := hRM) (hW := hW) (hn := (by omega)) (hw := (by omega))), rfl, rfl, rfl, ?_⟩
        rintro v2 w2 hp2
        obtain ⟨y0, y1, y2, rfl, rfl⟩ := hp2
        refine ⟨_, rfl, ⟨⟨_, rfl, ⟨_, _, _, _, _, _, _, _, _, _, _, _, _, rfl⟩⟩, fun _ => ⟨_, rfl, (updL0 _ _).trans (congrArg Int32.toInt64 rfl)⟩⟩, ?_⟩
        exact kk _ _ _ _ _ _ _ _ _ _ _ _ _ _ _ _ _ _ _ _ _ _ _ _ _ _ _ _ _ _ _ _ _ _ _ _ _ _ _ _ _ _ _ _ _ _ _ _ _ _ _ _ _ _ _ _ _ _ _ _ hW hRC hRM hHC hHM hKC hKM hTC hTM
    · refine lc_night hL hj hi hL2 ex1 rfl (pm := 25) (po := 35) (is1 := [35, 0, 1, 2, 11, 12, 13, 14]) (wn_night_A (o := o) (g := og) (c_X5_night__tb (hst := hst) (hB := hB) (b1 := b1) (b2 := b2) (b3 := b3) (b4 := b4) (b5 := b5) (b6 := b6) (b7 := b7) (b8 := b8) (b9 := b9) (b10 := b10) (c1 := c1) (f := f) (σ := σ) (e1 := e1) (e2 := e2) (e3 := e3) (par := par) (fre := fre) (pri := pri) (sls := sls) (drk := drk) (pla := pla) (tks := tks) (t1 := t1) (t2 := t2) (t3 := t3) (n := n) (w := (xs (i + 2))) (hR := hRC) (hW := hW) (hn := (by omega)) (hx := q2)) rfl) rfl rfl ?_
      rintro v w ⟨w1, hp, rfl, rfl⟩
      obtain ⟨z0, z1, z2, z3, z4, z5, z6, z7, z8, z9, rfl⟩ := hp
      refine ⟨2, _, _, _, [25, 27], by decide, rfl, (c_X6_night__x2 (hM := hM) (rf := rf) (x1 := x1) (sz := sz) (x3 := x3) (x4 := x4) (x5 := x5) (ac := cnt) (x7 := x7) (x8 := x8) (x9 := x9) (x10 := x10) (x11 := x11) (sp := sp) (ou := ou) (g := g) (σ := σ) (n := n) (w := (xs (i + 2))) (hR := hRM) (hW := hW) (hn := (by omega)) (hx := q2)), rfl, rfl, rfl, ?_⟩
      rintro v2 w2 hp2
      obtain ⟨rfl, rfl⟩ := hp2
      refine ⟨_, rfl, ⟨⟨_, rfl, ⟨_, _, _, _, _, _, _, _, _, _, _, _, _, rfl⟩⟩, fun z => absurd z (by decide)⟩, ?_⟩
      exact kk _ _ _ _ _ _ _ _ _ _ _ _ _ _ _ _ _ _ _ _ _ _ _ _ _ _ _ _ _ _ _ _ _ _ _ _ _ _ _ _ _ _ _ _ _ _ _ _ _ _ _ _ _ _ _ _ _ _ _ _ hW hRC hRM hHC hHM hKC hKM hTC hTM
  · refine lc_night hL hj hi hL2 rfl rfl (pm := 25) (po := 35) (is1 := [35, 0, 1, 2]) (wn_night_B (o := o) (g := og) (c_X5_night__ta (hst := hst) (hB := hB) (b1 := b1) (b2 := b2) (b3 := b3) (b4 := b4) (b5 := b5) (b6 := b6) (b7 := b7) (b8 := b8) (b9 := b9) (b10 := b10) (c1 := c1) (f := f) (σ := σ) (n := (xs (i + 1))) (w := (xs (i + 2))) (hR := hRC) (hW := hW) (hx := q1)) rfl) rfl rfl ?_
    rintro v w ⟨w1, hp, rfl, rfl⟩
    obtain rfl := hp
    refine ⟨1, _, _, _, [25, 27], by decide, rfl, (c_X6_night__x1 (hM := hM) (rf := rf) (x1 := x1) (sz := sz) (x3 := x3) (x4 := x4) (x5 := x5) (ac := cnt) (x7 := x7) (x8 := x8) (x9 := x9) (x10 := x10) (x11 := x11) (sp := sp) (ou := ou) (g := g) (σ := σ) (n := (xs (i + 1))) (w := (xs (i + 2))) (hR := hRM) (hW := hW) (hx := q1)), rfl, rfl, rfl, ?_⟩
    rintro v2 w2 hp2
    obtain ⟨rfl, rfl⟩ := hp2
    refine ⟨_, rfl, ⟨⟨_, rfl, ⟨_, _, _, _, _, _, _, _, _, _, _, _, _, rfl⟩⟩, fun z => absurd z (by decide)⟩, ?_⟩
    exact kk _ _ _ _ _ _ _ _ _ _ _ _ _ _ _ _ _ _ _ _ _ _ _ _ _ _ _ _ _ _ _ _ _ _ _ _ _ _ _ _ _ _ _ _ _ _ _ _ _ _ _ _ _ _ _ _ _ _ _ _ hW hRC hRM hHC hHM hKC hKM hTC hTM
set_option maxRecDepth 100000 in
set_option maxHeartbeats 4000000 in
theorem cs_actor {l : Launch} {E : Ev} (hst : l.stackTraces = false) {b L : Nat} {xs : Nat → Int32} {c0 s0 : Nat} {Ω : Nat → Om} (hL : Lw l E b L xs c0 s0 Ω) {j i : Nat} (hj : j < 512) (hi : i + 5 ≤ L) (hL2 : L ≤ 2560) {hB b1 b2 b3 b4 b5 b6 b7 b8 b9 b10 b11 c1 c2 c3 c6 e1 e2 e3 g1 g2 g3 h1 h2 h3 hM x1 x3 x4 x5 x7 x8 x9 x10 x11 o : Nat} (kk : LK E (Ω (j + 1)) (lv0 b hB hM o i) 2187 hB b1 b2 b3 b4 b5 b6 b7 b8 b9 b10 b11 c1 c2 c3 c6 e1 e2 e3 g1 g2 g3 h1 h2 h3 hM x1 x3 x4 x5 x7 x8 x9 x10 x11 o) : LK E (Ω j) (lv0 b hB hM o i) 578 hB b1 b2 b3 b4 b5 b6 b7 b8 b9 b10 b11 c1 c2 c3 c6 e1 e2 e3 g1 g2 g3 h1 h2 h3 hM x1 x3 x4 x5 x7 x8 x9 x10 x11 o := by
  intro od cnt sz par fre pri sls drk pla tks par1 fre1 pri1 sls1 drk1 pla1 tks1 sd st par3 fre3 pri3 sls3 drk3 pla3 tks3 rf sp ou f f2 D K Z tx t1 t2 t3 r1 r2 r3 s1 s2 s3 bl ty g g4 Dm Km Zm u1 u2 u3 og σ hs ks kd sg hW hRC hRM hHC hHM hKC hKM hTC hTM
  have hwP := hW.P
  have hwA := hW.A
  have hwS := hW.S
  have hTz := hTC.1
  have h14 := hHC.1
  by_cases q1 : vI (xs (i + 1)) (sA σ)
  · obtain ⟨a, ha, ex1⟩ := vI_of q1 (by omega)
    by_cases q2 : vI (xs (i + 2)) 6
    · obtain ⟨w, hw, ex2⟩ := vI_of q2 (by omega)
      rcases (by omega : w = 0 ∨ w = 1 ∨ w = 2 ∨ w = 3 ∨ w = 4 ∨ w = 5) with rfl | rfl | rfl | rfl | rfl | rfl
      · refine lc_actor hL hj hi hL2 ex1 ex2 (pm := 25) (po := 35) (is1 := [35, 0, 1, 2]) (wo_actor (o := o) (g := og) (c_X5_actor__0 (hB := hB) (b1 := b1) (b2 := b2) (b3 := b3) (b4 := b4) (b5 := b5) (b6 := b6) (b7 := b7) (b8 := b8) (b9 := b9) (b10 := b10) (c1 := c1) (f := f) (σ := σ) (a := a) (hR := hRC) (hW := hW) (ha := (by omega))) (fun v w h => by obtain ⟨rfl, rfl⟩ := h; exact ⟨⟨_, rfl⟩, rfl⟩) rfl) rfl rfl ?_
        rintro v w ⟨r, w1, hp, rfl, rfl⟩
        obtain ⟨hr0, rfl⟩ := hp
        obtain rfl := vinj hr0
        refine ⟨0, _, _, _, [25, 32, 33, 34, 27], by decide, rfl, (c_X6_actor (hM := hM) (rf := rf) (x1 := x1) (sz := sz) (x3 := x3) (x4 := x4) (x5 := x5) (ac := cnt) (x7 := x7) (x8 := x8) (x9 := x9) (x10 := x10) (x11 := x11) (sp := sp) (ou := ou) (t1 := u1) (t2 := u2) (t3 := u3) (g := g) (σ := σ) (a := a) (w := 0) (hR := hRM) (hW := hW) (ha := (by omega)) (hw := (by omega))), rfl, rfl, rfl, ?_⟩
        rintro v2 w2 hp2
        obtain ⟨y0, y1, y2, rfl, rfl⟩ := hp2
        refine ⟨_, rfl, ⟨⟨_, rfl, ⟨_, _, _, _, _, _, _, _, _, _, _, _, _, rfl⟩⟩, fun _ => ⟨_, rfl, (updL0 _ _).trans (congrArg Int32.toInt64 rfl)⟩⟩, ?_⟩
        exact kk _ _ _ _ _ _ _ _ _ _ _ _ _ _ _ _ _ _ _ _ _ _ _ _ _ _ _ _ _ _ _ _ _ _ _ _ _ _ _ _ _ _ _ _ _ _ _ _ _ _ _ _ _ _ _ _ _ _ _ _ hW hRC hRM hHC hHM hKC hKM hTC hTM
      · refine lc_actor hL hj hi hL2 ex1 ex2 (pm := 25) (po := 35) (is1 := [35, 0, 1, 2, 11, 12, 13, 14]) (wo_actor (o := o) (g := og) (c_X5_actor__1 (hB := hB) (b1 := b1) (b2 := b2) (b3 := b3) (b4 := b4) (b5 := b5) (b6 := b6) (b7 := b7) (b8 := b8) (b9 := b9) (b10 := b10) (c1 := c1) (f := f) (σ := σ) (e1 := e1) (e2 := e2) (e3 := e3) (par := par) (fre := fre) (pri := pri) (sls := sls) (drk := drk) (pla := pla) (tks := tks) (t1 := t1) (t2 := t2) (t3 := t3) (a := a) (hR := hRC) (hW := hW) (ha := (by omega))) (fun v w h => by obtain ⟨z0, z1, z2, z3, z4, z5, z6, z7, z8, z9, rfl, rfl⟩ := h; exact ⟨⟨_, rfl⟩, rfl⟩) rfl) rfl rfl ?_
        rintro v w ⟨r, w1, hp, rfl, rfl⟩
        obtain ⟨z0, z1, z2, z3, z4, z5, z6, z7, z8, z9, hr0, rfl⟩ := hp
        obtain rfl := vinj hr0
        refine ⟨0, _, _, _, [25, 32, 33, 34, 27], by decide, rfl, (c_X6_actor (hM := hM) (rf := rf) (x1 := x1) (sz := sz) (x3 := x3) (x4 := x4) (x5 := x5) (ac := cnt) (x7 := x7) (x8 := x8) (x9 := x9) (x10 := x10) (x11 := x11) (sp := sp) (ou := ou) (t1 := u1) (t2 := u2) (t3 := u3) (g := g) (σ := σ) (a := a) (w := 1) (hR := hRM) (hW := hW) (ha := (by omega)) (hw := (by omega))), rfl, rfl, rfl, ?_⟩
        rintro v2 w2 hp2
        obtain ⟨y0, y1, y2, rfl, rfl⟩ := hp2
        refine ⟨_, rfl, ⟨⟨_, rfl, ⟨_, _, _, _, _, _, _, _, _, _, _, _, _, rfl⟩⟩, fun _ => ⟨_, rfl, (updL0 _ _).trans (congrArg Int32.toInt64 rfl)⟩⟩, ?_⟩
        exact kk _ _ _ _ _ _ _ _ _ _ _ _ _ _ _ _ _ _ _ _ _ _ _ _ _ _ _ _ _ _ _ _ _ _ _ _ _ _ _ _ _ _ _ _ _ _ _ _ _ _ _ _ _ _ _ _ _ _ _ _ hW hRC hRM hHC hHM hKC hKM hTC hTM
      · refine lc_actor hL hj hi hL2 ex1 ex2 (pm := 25) (po := 35) (is1 := [35, 0, 1, 2, 11, 12, 13, 14]) (wo_actor (o := o) (g := og) (c_X5_actor__2 (hB := hB) (b1 := b1) (b2 := b2) (b3 := b3) (b4 := b4) (b5 := b5) (b6 := b6) (b7 := b7) (b8 := b8) (b9 := b9) (b10 := b10) (c1 := c1) (f := f) (σ := σ) (e1 := e1) (e2 := e2) (e3 := e3) (par := par) (fre := fre) (pri := pri) (sls := sls) (drk := drk) (pla := pla) (tks := tks) (t1 := t1) (t2 := t2) (t3 := t3) (a := a) (hR := hRC) (hW := hW) (ha := (by omega))) (fun v w h => by obtain ⟨z0, z1, z2, z3, z4, z5, z6, z7, z8, z9, rfl, rfl⟩ := h; exact ⟨⟨_, rfl⟩, rfl⟩) rfl) rfl rfl ?_
        rintro v w ⟨r, w1, hp, rfl, rfl⟩
        obtain ⟨z0, z1, z2, z3, z4, z5, z6, z7, z8, z9, hr0, rfl⟩ := hp
        obtain rfl := vinj hr0
        refine ⟨0, _, _, _, [25, 32, 33, 34, 27], by decide, rfl, (c_X6_actor (hM := hM) (rf := rf) (x1 := x1) (sz := sz) (x3 := x3) (x4 := x4) (x5 := x5) (ac := cnt) (x7 := x7) (x8 := x8) (x9 := x9) (x10 := x10) (x11 := x11) (sp := sp) (ou := ou) (t1 := u1) (t2 := u2) (t3 := u3) (g := g) (σ := σ) (a := a) (w := 2) (hR := hRM) (hW := hW) (ha := (by omega)) (hw := (by omega))), rfl, rfl, rfl, ?_⟩
        rintro v2 w2 hp2
        obtain ⟨y0, y1, y2, rfl, rfl⟩ := hp2
        refine ⟨_, rfl, ⟨⟨_, rfl, ⟨_, _, _, _, _, _, _, _, _, _, _, _, _, rfl⟩⟩, fun _ => ⟨_, rfl, (updL0 _ _).trans (congrArg Int32.toInt64 rfl)⟩⟩, ?_⟩
        exact kk _ _ _ _ _ _ _ _ _ _ _ _ _ _ _ _ _ _ _ _ _ _ _ _ _ _ _ _ _ _ _ _ _ _ _ _ _ _ _ _ _ _ _ _ _ _ _ _ _ _ _ _ _ _ _ _ _ _ _ _ hW hRC hRM hHC hHM hKC hKM hTC hTM
      · refine lc_actor hL hj hi hL2 ex1 ex2 (pm := 25) (po := 35) (is1 := [35, 0, 1, 2, 11, 12, 13, 14]) (wo_actor (o := o) (g := og) (c_X5_actor__3 (hB := hB) (b1 := b1) (b2 := b2) (b3 := b3) (b4 := b4) (b5 := b5) (b6 := b6) (b7 := b7) (b8 := b8) (b9 := b9) (b10 := b10) (c1 := c1) (f := f) (σ := σ) (e1 := e1) (e2 := e2) (e3 := e3) (par := par) (fre := fre) (pri := pri) (sls := sls) (drk := drk) (pla := pla) (tks := tks) (t1 := t1) (t2 := t2) (t3 := t3) (a := a) (hR := hRC) (hW := hW) (ha := (by omega))) (fun v w h => by obtain ⟨z0, z1, z2, z3, z4, z5, z6, z7, z8, z9, rfl, rfl⟩ := h; exact ⟨⟨_, rfl⟩, rfl⟩) rfl) rfl rfl ?_
        rintro v w ⟨r, w1, hp, rfl, rfl⟩
        obtain ⟨z0, z1, z2, z3, z4, z5, z6, z7, z8, z9, hr0, rfl⟩ := hp
        obtain rfl := vinj hr0
        refine ⟨0, _, _, _, [25, 32, 33, 34, 27], by decide, rfl, (c_X6_actor (hM := hM) (rf := rf) (x1 := x1) (sz := sz) (x3 := x3) (x4 := x4) (x5 := x5) (ac := cnt) (x7 := x7) (x8 := x8) (x9 := x9) (x10 := x10) (x11 := x11) (sp := sp) (ou := ou) (t1 := u1) (t2 := u2) (t3 := u3) (g := g) (σ := σ) (a := a) (w := 3) (hR := hRM) (hW := hW) (ha := (by omega)) (hw := (by omega))), rfl, rfl, rfl, ?_⟩
        rintro v2 w2 hp2
        obtain ⟨y0, y1, y2, rfl, rfl⟩ := hp2
        refine ⟨_, rfl, ⟨⟨_, rfl, ⟨_, _, _, _, _, _, _, _, _, _, _, _, _, rfl⟩⟩, fun _ => ⟨_, rfl, (updL0 _ _).trans (congrArg Int32.toInt64 rfl)⟩⟩, ?_⟩
        exact kk _ _ _ _ _ _ _ _ _ _ _ _ _ _ _ _ _ _ _ _ _ _ _ _ _ _ _ _ _ _ _ _ _ _ _ _ _ _ _ _ _ _ _ _ _ _ _ _ _ _ _ _ _ _ _ _ _ _ _ _ hW hRC hRM hHC hHM hKC hKM hTC hTM
      · refine lc_actor hL hj hi hL2 ex1 ex2 (pm := 25) (po := 35) (is1 := [35, 0, 1, 2, 11, 12, 13, 14]) (wo_actor (o := o) (g := og) (c_X5_actor__4 (hB := hB) (b1 := b1) (b2 := b2) (b3 := b3) (b4 := b4) (b5 := b5) (b6 := b6) (b7 := b7) (b8 := b8) (b9 := b9) (b10 := b10) (c1 := c1) (f := f) (σ := σ) (e1 := e1) (e2 := e2) (e3 := e3) (par := par) (fre := fre) (pri := pri) (sls := sls) (drk := drk) (pla := pla) (tks := tks) (t1 := t1) (t2 := t2) (t3 := t3) (a := a) (hR := hRC) (hW := hW) (ha := (by omega))) (fun v w h => by obtain ⟨z0, z1, z2, z3, z4, z5, z6, z7, z8, z9, rfl, rfl⟩ := h; exact ⟨⟨_, rfl⟩, rfl⟩) rfl) rfl rfl ?_
        rintro v w ⟨r, w1, hp, rfl, rfl⟩
        obtain ⟨z0, z1, z2, z3, z4, z5, z6, z7, z8, z9, hr0, rfl⟩ := hp
        obtain rfl := vinj hr0
        refine ⟨0, _, _, _, [25, 32, 33, 34, 27], by decide, rfl, (c_X6_actor (hM := hM) (rf := rf) (x1 := x1) (sz := sz) (x3 := x3) (x4 := x4) (x5 := x5) (ac := cnt) (x7 := x7) (x8 := x8) (x9 := x9) (x10 := x10) (x11 := x11) (sp := sp) (ou := ou) (t1 := u1) (t2 := u2) (t3 := u3) (g := g) (σ := σ) (a := a) (w := 4) (hR := hRM) (hW := hW) (ha := (by omega)) (hw := (by omega))), rfl, rfl, rfl, ?_⟩
        rintro v2 w2 hp2
        obtain ⟨y0, y1, y2, rfl, rfl⟩ := hp2
        refine ⟨_, rfl, ⟨⟨_, rfl, ⟨_, _, _, _, _, _, _, _, _, _, _, _, _, rfl⟩⟩, fun _ => ⟨_, rfl, (updL0 _ _).trans (congrArg Int32.toInt64 rfl)⟩⟩, ?_⟩
        exact kk _ _ _ _ _ _ _ _ _ _ _ _ _ _ _ _ _ _ _ _ _ _ _ _ _ _ _ _ _ _ _ _ _ _ _ _ _ _ _ _ _ _ _ _ _ _ _ _ _ _ _ _ _ _ _ _ _ _ _ _ hW hRC hRM hHC hHM hKC hKM hTC hTM
      · refine lc_actor hL hj hi hL2 ex1 ex2 (pm := 25) (po := 35) (is1 := [35, 0, 1, 2]) (wo_actor (o := o) (g := og) (c_X5_actor__5 (hB := hB) (b1 := b1) (b2 := b2) (b3 := b3) (b4 := b4) (b5 := b5) (b6 := b6) (b7 := b7) (b8 := b8) (b9 := b9) (b10 := b10) (c1 := c1) (f := f) (σ := σ) (a := a) (hR := hRC) (hW := hW) (ha := (by omega))) (fun v w h => by obtain ⟨rfl, rfl⟩ := h; exact ⟨⟨_, rfl⟩, rfl⟩) rfl) rfl rfl ?_
        rintro v w ⟨r, w1, hp, rfl, rfl⟩
        obtain ⟨hr0, rfl⟩ := hp
        obtain rfl := vinj hr0
        refine ⟨0, _, _, _, [25, 32, 33, 34, 27], by decide, rfl, (c_X6_actor (hM := hM) (rf := rf) (x1 := x1) (sz := sz) (x3 := x3) (x4 := x4) (x5 := x5) (ac := cnt) (x7 := x7) (x8 := x8) (x9 := x9) (x10 := x10) (x11 := x11) (sp := sp) (ou := ou) (t1 := u1) (t2 := u2) (t3 := u3) (g := g) (σ := σ) (a := a) (w := 5) (hR := hRM) (hW := hW) (ha := (by omega)) (hw := (by omega))), rfl, rfl, rfl, ?_⟩
        rintro v2 w2 hp2
        obtain ⟨y0, y1, y2, rfl, rfl⟩ := hp2
        refine ⟨_, rfl, ⟨⟨_, rfl, ⟨_, _, _, _, _, _, _, _, _, _, _, _, _, rfl⟩⟩, fun _ => ⟨_, rfl, (updL0 _ _).trans (congrArg Int32.toInt64 rfl)⟩⟩, ?_⟩
        exact kk _ _ _ _ _ _ _ _ _ _ _ _ _ _ _ _ _ _ _ _ _ _ _ _ _ _ _ _ _ _ _ _ _ _ _ _ _ _ _ _ _ _ _ _ _ _ _ _ _ _ _ _ _ _ _ _ _ _ _ _ hW hRC hRM hHC hHM hKC hKM hTC hTM
    · refine lc_actor hL hj hi hL2 ex1 rfl (pm := 25) (po := 35) (is1 := [35, 0, 1, 2]) (wn_actor_A (o := o) (g := og) (c_X5_actor__tb (hst := hst) (hB := hB) (b1 := b1) (b2 := b2) (b3 := b3) (b4 := b4) (b5 := b5) (b6 := b6) (b7 := b7) (b8 := b8) (b9 := b9) (b10 := b10) (c1 := c1) (f := f) (σ := σ) (a := a) (w := (xs (i + 2))) (hR := hRC) (hW := hW) (ha := (by omega)) (hx := q2)) rfl) rfl rfl ?_
      rintro v w ⟨w1, hp, rfl, rfl⟩
      obtain rfl := hp
      refine ⟨2, _, _, _, [25, 27], by decide, rfl, (c_X6_actor__x2 (hM := hM) (rf := rf) (x1 := x1) (sz := sz) (x3 := x3) (x4 := x4) (x5 := x5) (ac := cnt) (x7 := x7) (x8 := x8) (x9 := x9) (x10 := x10) (x11 := x11) (sp := sp) (ou := ou) (g := g) (σ := σ) (a := a) (w := (xs (i + 2))) (hR := hRM) (hW := hW) (ha := (by omega)) (hx := q2)), rfl, rfl, rfl, ?_⟩
      rintro v2 w2 hp2
      obtain ⟨rfl, rfl⟩ := hp2
      refine ⟨_, rfl, ⟨⟨_, rfl, ⟨_, _, _, _, _, _, _, _, _, _, _, _, _, rfl⟩⟩, fun z => absurd z (by decide)⟩, ?_⟩
      exact kk _ _ _ _ _ _ _ _ _ _ _ _ _ _ _ _ _ _ _ _ _ _ _ _ _ _ _ _ _ _ _ _ _ _ _ _ _ _ _ _ _ _ _ _ _ _ _ _ _ _ _ _ _ _ _ _ _ _ _ _ hW hRC hRM hHC hHM hKC hKM hTC hTM
  · refine lc_actor hL hj hi hL2 rfl rfl (pm := 25) (po := 35) (is1 := [35, 0, 1, 2]) (wn_actor_B (o := o) (g := og) (c_X5_actor__ta (hst := hst) (hB := hB) (b1 := b1) (b2 := b2) (b3 := b3) (b4 := b4) (b5 := b5) (b6 := b6) (b7 := b7) (b8 := b8) (b9 := b9) (b10 := b10) (c1 := c1) (f := f) (σ := σ) (a := (xs (i + 1))) (w := (xs (i + 2))) (hR := hRC) (hW := hW) (hx := q1)) rfl) rfl rfl ?_
    rintro v w ⟨w1, hp, rfl, rfl⟩
    obtain rfl := hp
    refine ⟨1, _, _, _, [25, 27], by decide, rfl, (c_X6_actor__x1 (hM := hM) (rf := rf) (x1 := x1) (sz := sz) (x3 := x3) (x4 := x4) (x5 := x5) (ac := cnt) (x7 := x7) (x8 := x8) (x9 := x9) (x10 := x10) (x11 := x11) (sp := sp) (ou := ou) (g := g) (σ := σ) (a := (xs (i + 1))) (w := (xs (i + 2))) (hR := hRM) (hW := hW) (hx := q1)), rfl, rfl, rfl, ?_⟩
    rintro v2 w2 hp2
    obtain ⟨rfl, rfl⟩ := hp2
    refine ⟨_, rfl, ⟨⟨_, rfl, ⟨_, _, _, _, _, _, _, _, _, _, _, _, _, rfl⟩⟩, fun z => absurd z (by decide)⟩, ?_⟩
    exact kk _ _ _ _ _ _ _ _ _ _ _ _ _ _ _ _ _ _ _ _ _ _ _ _ _ _ _ _ _ _ _ _ _ _ _ _ _ _ _ _ _ _ _ _ _ _ _ _ _ _ _ _ _ _ _ _ _ _ _ _ hW hRC hRM hHC hHM hKC hKM hTC hTM
set_option maxRecDepth 100000 in
set_option maxHeartbeats 4000000 in
theorem cs_ranked {l : Launch} {E : Ev} (hst : l.stackTraces = false) {b L : Nat} {xs : Nat → Int32} {c0 s0 : Nat} {Ω : Nat → Om} (hL : Lw l E b L xs c0 s0 Ω) {j i : Nat} (hj : j < 512) (hi : i + 5 ≤ L) (hL2 : L ≤ 2560) {hB b1 b2 b3 b4 b5 b6 b7 b8 b9 b10 b11 c1 c2 c3 c6 e1 e2 e3 g1 g2 g3 h1 h2 h3 hM x1 x3 x4 x5 x7 x8 x9 x10 x11 o : Nat} (kk : LK E (Ω (j + 1)) (lv0 b hB hM o i) 2187 hB b1 b2 b3 b4 b5 b6 b7 b8 b9 b10 b11 c1 c2 c3 c6 e1 e2 e3 g1 g2 g3 h1 h2 h3 hM x1 x3 x4 x5 x7 x8 x9 x10 x11 o) : LK E (Ω j) (lv0 b hB hM o i) 646 hB b1 b2 b3 b4 b5 b6 b7 b8 b9 b10 b11 c1 c2 c3 c6 e1 e2 e3 g1 g2 g3 h1 h2 h3 hM x1 x3 x4 x5 x7 x8 x9 x10 x11 o := by
  intro od cnt sz par fre pri sls drk pla tks par1 fre1 pri1 sls1 drk1 pla1 tks1 sd st par3 fre3 pri3 sls3 drk3 pla3 tks3 rf sp ou f f2 D K Z tx t1 t2 t3 r1 r2 r3 s1 s2 s3 bl ty g g4 Dm Km Zm u1 u2 u3 og σ hs ks kd sg hW hRC hRM hHC hHM hKC hKM hTC hTM
  have hwP := hW.P
  have hwA := hW.A
  have hwS := hW.S
  have hTz := hTC.1
  have h14 := hHC.1
  by_cases q1 : vI (xs (i + 1)) (sP σ)
  · obtain ⟨p, hp, ex1⟩ := vI_of q1 (by omega)
    by_cases q2 : xs (i + 2) < 0
    · refine lc_ranked hL hj hi hL2 ex1 rfl (pm := 25) (po := 35) (is1 := [35, 0, 1, 2]) (wn_ranked_A (o := o) (g := og) (c_X5_ranked__tb (hst := hst) (hB := hB) (b1 := b1) (b2 := b2) (b3 := b3) (b4 := b4) (b5 := b5) (b6 := b6) (b7 := b7) (b8 := b8) (b9 := b9) (b10 := b10) (c1 := c1) (f := f) (σ := σ) (p := p) (k := (xs (i + 2))) (hR := hRC) (hW := hW) (hp := (by omega)) (hx := q2)) rfl) rfl rfl ?_
      rintro v w ⟨w1, hp, rfl, rfl⟩
      obtain rfl := hp
      refine ⟨2, _, _, _, [25, 27], by decide, rfl, (c_X6_ranked__x2 (hM := hM) (rf := rf) (x1 := x1) (sz := sz) (x3 := x3) (x4 := x4) (x5 := x5) (ac := cnt) (x7 := x7) (x8 := x8) (x9 := x9) (x10 := x10) (x11 := x11) (sp := sp) (ou := ou) (g := g) (σ := σ) (p := p) (k := (xs (i + 2))) (hR := hRM) (hW := hW) (hp := (by omega)) (hx := q2)), rfl, rfl, rfl, ?_⟩
      rintro v2 w2 hp2
      obtain ⟨rfl, rfl⟩ := hp2
      refine ⟨_, rfl, ⟨⟨_, rfl, ⟨_, _, _, _, _, _, _, _, _, _, _, _, _, rfl⟩⟩, fun z => absurd z (by decide)⟩, ?_⟩
      exact kk _ _ _ _ _ _ _ _ _ _ _ _ _ _ _ _ _ _ _ _ _ _ _ _ _ _ _ _ _ _ _ _ _ _ _ _ _ _ _ _ _ _ _ _ _ _ _ _ _ _ _ _ _ _ _ _ _ _ _ _ hW hRC hRM hHC hHM hKC hKM hTC hTM
    · obtain ⟨k, hk, ex2⟩ := nonneg_of q2
      refine lc_ranked hL hj hi hL2 ex1 ex2 (pm := 25) (po := 35) (is1 := [35, 0, 1, 2]) (wo_ranked (o := o) (g := og) (c_X5_ranked (hB := hB) (b1 := b1) (b2 := b2) (b3 := b3) (b4 := b4) (b5 := b5) (b6 := b6) (b7 := b7) (b8 := b8) (b9 := b9) (b10 := b10) (c1 := c1) (f := f) (σ := σ) (p := p) (k := k) (hR := hRC) (hW := hW) (hp := (by omega)) (hk := (by omega))) (fun v w h => by obtain ⟨rfl, rfl⟩ := h; exact ⟨⟨_, rfl⟩, rfl⟩) rfl) rfl rfl ?_
      rintro v w ⟨r, w1, hp, rfl, rfl⟩
      obtain ⟨hr0, rfl⟩ := hp
      obtain rfl := vinj hr0
      refine ⟨0, _, _, _, [25, 27], by decide, rfl, (c_X6_ranked (hM := hM) (rf := rf) (x1 := x1) (sz := sz) (x3 := x3) (x4 := x4) (x5 := x5) (ac := cnt) (x7 := x7) (x8 := x8) (x9 := x9) (x10 := x10) (x11 := x11) (sp := sp) (ou := ou) (g := g) (σ := σ) (p := p) (k := k) (hR := hRM) (hW := hW) (hp := (by omega)) (hk := (by omega))), rfl, rfl, rfl, ?_⟩
      rintro v2 w2 hp2
      obtain ⟨rfl, rfl⟩ := hp2
      refine ⟨_, rfl, ⟨⟨_, rfl, ⟨_, _, _, _, _, _, _, _, _, _, _, _, _, rfl⟩⟩, fun _ => ⟨_, rfl, (updL0 _ _).trans (congrArg Int32.toInt64 (eqRank _ _ _))⟩⟩, ?_⟩
      exact kk _ _ _ _ _ _ _ _ _ _ _ _ _ _ _ _ _ _ _ _ _ _ _ _ _ _ _ _ _ _ _ _ _ _ _ _ _ _ _ _ _ _ _ _ _ _ _ _ _ _ _ _ _ _ _ _ _ _ _ _ hW hRC hRM hHC hHM hKC hKM hTC hTM
  · refine lc_ranked hL hj hi hL2 rfl rfl (pm := 25) (po := 35) (is1 := [35, 0, 1, 2]) (wn_ranked_B (o := o) (g := og) (c_X5_ranked__ta (hst := hst) (hB := hB) (b1 := b1) (b2 := b2) (b3 := b3) (b4 := b4) (b5 := b5) (b6 := b6) (b7 := b7) (b8 := b8) (b9 := b9) (b10 := b10) (c1 := c1) (f := f) (σ := σ) (p := (xs (i + 1))) (k := (xs (i + 2))) (hR := hRC) (hW := hW) (hx := q1)) rfl) rfl rfl ?_
    rintro v w ⟨w1, hp, rfl, rfl⟩
    obtain rfl := hp
    refine ⟨1, _, _, _, [25, 27], by decide, rfl, (c_X6_ranked__x1 (hM := hM) (rf := rf) (x1 := x1) (sz := sz) (x3 := x3) (x4 := x4) (x5 := x5) (ac := cnt) (x7 := x7) (x8 := x8) (x9 := x9) (x10 := x10) (x11 := x11) (sp := sp) (ou := ou) (g := g) (σ := σ) (p := (xs (i + 1))) (k := (xs (i + 2))) (hR := hRM) (hW := hW) (hx := q1)), rfl, rfl, rfl, ?_⟩
    rintro v2 w2 hp2
    obtain ⟨rfl, rfl⟩ := hp2
    refine ⟨_, rfl, ⟨⟨_, rfl, ⟨_, _, _, _, _, _, _, _, _, _, _, _, _, rfl⟩⟩, fun z => absurd z (by decide)⟩, ?_⟩
    exact kk _ _ _ _ _ _ _ _ _ _ _ _ _ _ _ _ _ _ _ _ _ _ _ _ _ _ _ _ _ _ _ _ _ _ _ _ _ _ _ _ _ _ _ _ _ _ _ _ _ _ _ _ _ _ _ _ _ _ _ _ hW hRC hRM hHC hHM hKC hKM hTC hTM
set_option maxRecDepth 100000 in
set_option maxHeartbeats 4000000 in
theorem cs_found {l : Launch} {E : Ev} (hst : l.stackTraces = false) {b L : Nat} {xs : Nat → Int32} {c0 s0 : Nat} {Ω : Nat → Om} (hL : Lw l E b L xs c0 s0 Ω) {j i : Nat} (hj : j < 512) (hi : i + 5 ≤ L) (hL2 : L ≤ 2560) {hB b1 b2 b3 b4 b5 b6 b7 b8 b9 b10 b11 c1 c2 c3 c6 e1 e2 e3 g1 g2 g3 h1 h2 h3 hM x1 x3 x4 x5 x7 x8 x9 x10 x11 o : Nat} (kk : LK E (Ω (j + 1)) (lv0 b hB hM o i) 2187 hB b1 b2 b3 b4 b5 b6 b7 b8 b9 b10 b11 c1 c2 c3 c6 e1 e2 e3 g1 g2 g3 h1 h2 h3 hM x1 x3 x4 x5 x7 x8 x9 x10 x11 o) : LK E (Ω j) (lv0 b hB hM o i) 714 hB b1 b2 b3 b4 b5 b6 b7 b8 b9 b10 b11 c1 c2 c3 c6 e1 e2 e3 g1 g2 g3 h1 h2 h3 hM x1 x3 x4 x5 x7 x8 x9 x10 x11 o := by
  intro od cnt sz par fre pri sls drk pla tks par1 fre1 pri1 sls1 drk1 pla1 tks1 sd st par3 fre3 pri3 sls3 drk3 pla3 tks3 rf sp ou f f2 D K Z tx t1 t2 t3 r1 r2 r3 s1 s2 s3 bl ty g g4 Dm Km Zm u1 u2 u3 og σ hs ks kd sg hW hRC hRM hHC hHM hKC hKM hTC hTM
  have hwP := hW.P
  have hwA := hW.A
  have hwS := hW.S
  have hTz := hTC.1
  have h14 := hHC.1
  by_cases q1 : vI (xs (i + 1)) (sS σ)
  · obtain ⟨k, hk, ex1⟩ := vI_of q1 (by omega)
    by_cases q2 : vI (xs (i + 2)) 5
    · obtain ⟨w, hw, ex2⟩ := vI_of q2 (by omega)
      rcases (by omega : w = 0 ∨ w = 1 ∨ w = 2 ∨ w = 3 ∨ w = 4) with rfl | rfl | rfl | rfl | rfl
      · refine lc_found hL hj hi hL2 ex1 ex2 (pm := 25) (po := 35) (is1 := [35, 0, 1, 2]) (wo_found (o := o) (g := og) (c_X5_found__0 (hB := hB) (b1 := b1) (b2 := b2) (b3 := b3) (b4 := b4) (b5 := b5) (b6 := b6) (b7 := b7) (b8 := b8) (b9 := b9) (b10 := b10) (c1 := c1) (f := f) (σ := σ) (k := k) (hR := hRC) (hW := hW) (hk := (by omega))) (fun v w h => by obtain ⟨rfl, rfl⟩ := h; exact ⟨⟨_, rfl⟩, rfl⟩) rfl) rfl rfl ?_
        rintro v w ⟨r, w1, hp, rfl, rfl⟩
        obtain ⟨hr0, rfl⟩ := hp
        obtain rfl := vinj hr0
        refine ⟨0, _, _, _, [25, 32, 33, 34, 27], by decide, rfl, (c_X6_found (hM := hM) (rf := rf) (x1 := x1) (sz := sz) (x3 := x3) (x4 := x4) (x5 := x5) (ac := cnt) (x7 := x7) (x8 := x8) (x9 := x9) (x10 := x10) (x11 := x11) (sp := sp) (ou := ou) (t1 := u1) (t2 := u2) (t3 := u3) (g := g) (σ := σ) (k := k) (w := 0) (hR := hRM) (hW := hW) (hk := (by omega)) (hw := (by omega))), rfl, rfl, rfl, ?_⟩
        rintro v2 w2 hp2
        obtain ⟨y0, y1, y2, rfl, rfl⟩ := hp2
        refine ⟨_, rfl, ⟨⟨_, rfl, ⟨_, _, _, _, _, _, _, _, _, _, _, _, _, rfl⟩⟩, fun _ => ⟨_, rfl, (updL0 _ _).trans (congrArg Int32.toInt64 rfl)⟩⟩, ?_⟩
        exact kk _ _ _ _ _ _ _ _ _ _ _ _ _ _ _ _ _ _ _ _ _ _ _ _ _ _ _ _ _ _ _ _ _ _ _ _ _ _ _ _ _ _ _ _ _ _ _ _ _ _ _ _ _ _ _ _ _ _ _ _ hW hRC hRM hHC hHM hKC hKM hTC hTM
      · refine lc_found hL hj hi hL2 ex1 ex2 (pm := 25) (po := 35) (is1 := [35, 0, 1, 2]) (wo_found (o := o) (g := og) (c_X5_found__1 (hB := hB) (b1 := b1) (b2 := b2) (b3 := b3) (b4 := b4) (b5 := b5) (b6 := b6) (b7 := b7) (b8 := b8) (b9 := b9) (b10 := b10) (c1 := c1) (f := f) (σ := σ) (k := k) (hR := hRC) (hW := hW) (hk := (by omega))) (fun v w h => by obtain ⟨rfl, rfl⟩ := h; exact ⟨⟨_, rfl⟩, rfl⟩) rfl) rfl rfl ?_
        rintro v w ⟨r, w1, hp, rfl, rfl⟩
        obtain ⟨hr0, rfl⟩ := hp
        obtain rfl := vinj hr0
        refine ⟨0, _, _, _, [25, 32, 33, 34, 27], by decide, rfl, (c_X6_found (hM := hM) (rf := rf) (x1 := x1) (sz := sz) (x3 := x3) (x4 := x4) (x5 := x5) (ac := cnt) (x7 := x7) (x8 := x8) (x9 := x9) (x10 := x10) (x11 := x11) (sp := sp) (ou := ou) (t1 := u1) (t2 := u2) (t3 := u3) (g := g) (σ := σ) (k := k) (w := 1) (hR := hRM) (hW := hW) (hk := (by omega)) (hw := (by omega))), rfl, rfl, rfl, ?_⟩
        rintro v2 w2 hp2
        obtain ⟨y0, y1, y2, rfl, rfl⟩ := hp2
        refine ⟨_, rfl, ⟨⟨_, rfl, ⟨_, _, _, _, _, _, _, _, _, _, _, _, _, rfl⟩⟩, fun _ => ⟨_, rfl, (updL0 _ _).trans (congrArg Int32.toInt64 rfl)⟩⟩, ?_⟩
        exact kk _ _ _ _ _ _ _ _ _ _ _ _ _ _ _ _ _ _ _ _ _ _ _ _ _ _ _ _ _ _ _ _ _ _ _ _ _ _ _ _ _ _ _ _ _ _ _ _ _ _ _ _ _ _ _ _ _ _ _ _ hW hRC hRM hHC hHM hKC hKM hTC hTM
      · refine lc_found hL hj hi hL2 ex1 ex2 (pm := 25) (po := 35) (is1 := [35, 0, 1, 2]) (wo_found (o := o) (g := og) (c_X5_found__2 (hB := hB) (b1 := b1) (b2 := b2) (b3 := b3) (b4 := b4) (b5 := b5) (b6 := b6) (b7 := b7) (b8 := b8) (b9 := b9) (b10 := b10) (c1 := c1) (f := f) (σ := σ) (k := k) (hR := hRC) (hW := hW) (hk := (by omega))) (fun v w h => by obtain ⟨rfl, rfl⟩ := h; exact ⟨⟨_, rfl⟩, rfl⟩) rfl) rfl rfl ?_
        rintro v w ⟨r, w1, hp, rfl, rfl⟩
        obtain ⟨hr0, rfl⟩ := hp
        obtain rfl := vinj hr0
        refine ⟨0, _, _, _, [25, 32, 33, 34, 27], by decide, rfl, (c_X6_found (hM := hM) (rf := rf) (x1 := x1) (sz := sz) (x3 := x3) (x4 := x4) (x5 := x5) (ac := cnt) (x7 := x7) (x8 := x8) (x9 := x9) (x10 := x10) (x11 := x11) (sp := sp) (ou := ou) (t1 := u1) (t2 := u2) (t3 := u3) (g := g) (σ := σ) (k := k) (w := 2) (hR := hRM) (hW := hW) (hk := (by omega)) (hw := (by omega))), rfl, rfl, rfl, ?_⟩
        rintro v2 w2 hp2
        obtain ⟨y0, y1, y2, rfl, rfl⟩ := hp2
        refine ⟨_, rfl, ⟨⟨_, rfl, ⟨_, _, _, _, _, _, _, _, _, _, _, _, _, rfl⟩⟩, fun _ => ⟨_, rfl, (updL0 _ _).trans (congrArg Int32.toInt64 rfl)⟩⟩, ?_⟩
        exact kk _ _ _ _ _ _ _ _ _ _ _ _ _ _ _ _ _ _ _ _ _ _ _ _ _ _ _ _ _ _ _ _ _ _ _ _ _ _ _ _ _ _ _ _ _ _ _ _ _ _ _ _ _ _ _ _ _ _ _ _ hW hRC hRM hHC hHM hKC hKM hTC hTM
      · refine lc_found hL hj hi hL2 ex1 ex2 (pm := 25) (po := 35) (is1 := [35, 0, 1, 2]) (wo_found (o := o) (g := og) (c_X5_found__3 (hB := hB) (b1 := b1) (b2 := b2) (b3 := b3) (b4 := b4) (b5 := b5) (b6 := b6) (b7 := b7) (b8 := b8) (b9 := b9) (b10 := b10) (c1 := c1) (f := f) (σ := σ) (k := k) (hR := hRC) (hW := hW) (hk := (by omega))) (fun v w h => by obtain ⟨rfl, rfl⟩ := h; exact ⟨⟨_, rfl⟩, rfl⟩) rfl) rfl rfl ?_
        rintro v w ⟨r, w1, hp, rfl, rfl⟩
        obtain ⟨hr0, rfl⟩ := hp
        obtain rfl := vinj hr0
        refine ⟨0, _, _, _, [25, 32, 33, 34, 27], by decide, rfl, (c_X6_found (hM := hM) (rf := rf) (x1 := x1) (sz := sz) (x3 := x3) (x4 := x4) (x5 := x5) (ac := cnt) (x7 := x7) (x8 := x8) (x9 := x9) (x10 := x10) (x11 := x11) (sp := sp) (ou := ou) (t1 := u1) (t2 := u2) (t3 := u3) (g := g) (σ := σ) (k := k) (w := 3) (hR := hRM) (hW := hW) (hk := (by omega)) (hw := (by omega))), rfl, rfl, rfl, ?_⟩
        rintro v2 w2 hp2
        obtain ⟨y0, y1, y2, rfl, rfl⟩ := hp2
        refine ⟨_, rfl, ⟨⟨_, rfl, ⟨_, _, _, _, _, _, _, _, _, _, _, _, _, rfl⟩⟩, fun _ => ⟨_, rfl, (updL0 _ _).trans (congrArg Int32.toInt64 rfl)⟩⟩, ?_⟩
        exact kk _ _ _ _ _ _ _ _ _ _ _ _ _ _ _ _ _ _ _ _ _ _ _ _ _ _ _ _ _ _ _ _ _ _ _ _ _ _ _ _ _ _ _ _ _ _ _ _ _ _ _ _ _ _ _ _ _ _ _ _ hW hRC hRM hHC hHM hKC hKM hTC hTM
      · refine lc_found hL hj hi hL2 ex1 ex2 (pm := 25) (po := 35) (is1 := [35, 0, 1, 2, 11, 12, 13, 14]) (wo_found (o := o) (g := og) (c_X5_found__4 (hB := hB) (b1 := b1) (b2 := b2) (b3 := b3) (b4 := b4) (b5 := b5) (b6 := b6) (b7 := b7) (b8 := b8) (b9 := b9) (b10 := b10) (c1 := c1) (f := f) (σ := σ) (e1 := e1) (e2 := e2) (e3 := e3) (par := par) (fre := fre) (pri := pri) (sls := sls) (drk := drk) (pla := pla) (tks := tks) (t1 := t1) (t2 := t2) (t3 := t3) (k := k) (hR := hRC) (hW := hW) (hk := (by omega))) (fun v w h => by obtain ⟨z0, z1, z2, z3, z4, z5, z6, z7, z8, z9, rfl, rfl⟩ := h; exact ⟨⟨_, rfl⟩, rfl⟩) rfl) rfl rfl ?_
        rintro v w ⟨r, w1, hp, rfl, rfl⟩
        obtain ⟨z0, z1, z2, z3, z4, z5, z6, z7, z8, z9, hr0, rfl⟩ := hp
        obtain rfl := vinj hr0
        refine ⟨0, _, _, _, [25, 32, 33, 34, 27], by decide, rfl, (c_X6_found (hM := hM) (rf := rf) (x1 := x1) (sz := sz) (x3 := x3) (x4 := x4) (x5 := x5) (ac := cnt) (x7 := x7) (x8 := x8) (x9 := x9) (x10 := x10) (x11 := x11) (sp := sp) (ou := ou) (t1 := u1) (t2 := u2) (t3 := u3) (g := g) (σ := σ) (k := k) (w := 4) (hR := hRM) (hW := hW) (hk := (by omega)) (hw := (by omega))), rfl, rfl, rfl, ?_⟩
        rintro v2 w2 hp2
        obtain ⟨y0, y1, y2, rfl, rfl⟩ := hp2
        refine ⟨_, rfl, ⟨⟨_, rfl, ⟨_, _, _, _, _, _, _, _, _, _, _, _, _, rfl⟩⟩, fun _ => ⟨_, rfl, (updL0 _ _).trans (congrArg Int32.toInt64 rfl)⟩⟩, ?_⟩
        exact kk _ _ _ _ _ _ _ _ _ _ _ _ _ _ _ _ _ _ _ _ _ _ _ _ _ _ _ _ _ _ _ _ _ _ _ _ _ _ _ _ _ _ _ _ _ _ _ _ _ _ _ _ _ _ _ _ _ _ _ _ hW hRC hRM hHC hHM hKC hKM hTC hTM
    · refine lc_found hL hj hi hL2 ex1 rfl (pm := 25) (po := 35) (is1 := [35, 0, 1, 2]) (wn_found_A (o := o) (g := og) (c_X5_found__tb (hst := hst) (hB := hB) (b1 := b1) (b2 := b2) (b3 := b3) (b4 := b4) (b5 := b5) (b6 := b6) (b7 := b7) (b8 := b8) (b9 := b9) (b10 := b10) (c1 := c1) (f := f) (σ := σ) (k := k) (w := (xs (i + 2))) (hR := hRC) (hW := hW) (hk := (by omega)) (hx := q2)) rfl) rfl rfl ?_
      rintro v w ⟨w1, hp, rfl, rfl⟩
      obtain rfl := hp
      refine ⟨2, _, _, _, [25, 27], by decide, rfl, (c_X6_found__x2 (hM := hM) (rf := rf) (x1 := x1) (sz := sz) (x3 := x3) (x4 := x4) (x5 := x5) (ac := cnt) (x7 := x7) (x8 := x8) (x9 := x9) (x10 := x10) (x11 := x11) (sp := sp) (ou := ou) (g := g) (σ := σ) (k := k) (w := (xs (i + 2))) (hR := hRM) (hW := hW) (hk := (by omega)) (hx := q2)), rfl, rfl, rfl, ?_⟩
      rintro v2 w2 hp2
      obtain ⟨rfl, rfl⟩ := hp2
      refine ⟨_, rfl, ⟨⟨_, rfl, ⟨_, _, _, _, _, _, _, _, _, _, _, _, _, rfl⟩⟩, fun z => absurd z (by decide)⟩, ?_⟩
      exact kk _ _ _ _ _ _ _ _ _ _ _ _ _ _ _ _ _ _ _ _ _ _ _ _ _ _ _ _ _ _ _ _ _ _ _ _ _ _ _ _ _ _ _ _ _ _ _ _ _ _ _ _ _ _ _ _ _ _ _ _ hW hRC hRM hHC hHM hKC hKM hTC hTM
  · refine lc_found hL hj hi hL2 rfl rfl (pm := 25) (po := 35) (is1 := [35, 0, 1, 2]) (wn_found_B (o := o) (g := og) (c_X5_found__ta (hst := hst) (hB := hB) (b1 := b1) (b2 := b2) (b3 := b3) (b4 := b4) (b5 := b5) (b6 := b6) (b7 := b7) (b8 := b8) (b9 := b9) (b10 := b10) (c1 := c1) (f := f) (σ := σ) (k := (xs (i + 1))) (w := (xs (i + 2))) (hR := hRC) (hW := hW) (hx := q1)) rfl) rfl rfl ?_
    rintro v w ⟨w1, hp, rfl, rfl⟩
    obtain rfl := hp
    refine ⟨1, _, _, _, [25, 27], by decide, rfl, (c_X6_found__x1 (hM := hM) (rf := rf) (x1 := x1) (sz := sz) (x3 := x3) (x4 := x4) (x5 := x5) (ac := cnt) (x7 := x7) (x8 := x8) (x9 := x9) (x10 := x10) (x11 := x11) (sp := sp) (ou := ou) (g := g) (σ := σ) (k := (xs (i + 1))) (w := (xs (i + 2))) (hR := hRM) (hW := hW) (hx := q1)), rfl, rfl, rfl, ?_⟩
    rintro v2 w2 hp2
    obtain ⟨rfl, rfl⟩ := hp2
    refine ⟨_, rfl, ⟨⟨_, rfl, ⟨_, _, _, _, _, _, _, _, _, _, _, _, _, rfl⟩⟩, fun z => absurd z (by decide)⟩, ?_⟩
    exact kk _ _ _ _ _ _ _ _ _ _ _ _ _ _ _ _ _ _ _ _ _ _ _ _ _ _ _ _ _ _ _ _ _ _ _ _ _ _ _ _ _ _ _ _ _ _ _ _ _ _ _ _ _ _ _ _ _ _ _ _ hW hRC hRM hHC hHM hKC hKM hTC hTM
