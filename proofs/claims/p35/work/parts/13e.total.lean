/-! calls of at most so many cells; calls that may be refused, told as one -/
def CtL (l : Launch) (E : Ev) (y : MethodName) (cc : ByteArray) (maxL : Nat) (ret : Option FieldType) (ho : Option (List (Nat × Nat × Nat × Nat))) (fr lo K : Nat) (av : List Value) (ws : va_W) (post : Option Value → va_W → Prop) : Prop := ∃ k : Nat, k ≤ K ∧ CtN l E y cc maxL ret ho fr lo k av ws post
theorem CtN.l {l : Launch} {E : Ev} {y : MethodName} {cc : ByteArray} {maxL : Nat} {ret : Option FieldType} {ho : Option (List (Nat × Nat × Nat × Nat))} {fr lo k : Nat} {av : List Value} {ws : va_W} {post : Option Value → va_W → Prop} (h : CtN l E y cc maxL ret ho fr lo k av ws post) : CtL l E y cc maxL ret ho fr lo k av ws post := ⟨k, Nat.le_refl k, h⟩
theorem CtN.l1 {l : Launch} {E : Ev} {y : MethodName} {cc : ByteArray} {maxL : Nat} {ret : Option FieldType} {ho : Option (List (Nat × Nat × Nat × Nat))} {fr lo : Nat} {av : List Value} {ws : va_W} {post : Option Value → va_W → Prop} (h : CtN l E y cc maxL ret ho fr lo 0 av ws post) : CtL l E y cc maxL ret ho fr lo 1 av ws post := ⟨0, Nat.zero_le 1, h⟩
section LCALLS
variable {l : Launch} {E : Ev} {cc : ByteArray} {own : String} {fr lo k : Nat} {Ω : Nat → Om} {j K : Nat} {wc : va_W} {lv : List (Nat × Value)} {st rest As : List Value} {pc index maxL fr' lo' : Nat} {y : MethodName} {bytes : ByteArray} {ret : Option FieldType} {ho : Option (List (Nat × Nat × Nat × Nat))} {post : Option Value → va_W → Prop}
abbrev Upw (Ω : Nat → Om) : Prop := ∀ (j i : Nat) (ws : va_W) (lv : List (Nat × Value)) (st : List Value) (pc : Nat), j ≤ i → Ω i ws lv st pc → Ω j ws lv st pc
theorem Ca.at (h : Ca l E cc own fr lo k Ω) (up : Upw Ω) {pre suf : va_W} (hj : j + K ≤ k) (hM : CtL l E y bytes maxL ret ho fr' lo' K As wc post) (hk : LkN y bytes maxL ret ho As.length) (hl : Cond.methodLink own index y ∈ Tw) (hd : decode cc pc = .ok (.invokestatic index, 3)) (hst : st = As.reverse ++ rest) (hR : fr' + 1 ≤ fr ∧ 8 + (maxL + 11) + lo' ≤ lo) (hrm : (rest.map fun v => v.category).sum ≤ 8) (kk : ∀ (v : Option Value) (w : va_W), post v w → Ω (j + K) (pre ++ (w ++ suf)) lv (v.toList ++ rest) (pc + 3)) : Ω j (pre ++ (wc ++ suf)) lv st pc := by
  obtain ⟨k', hk', hM⟩ := hM
  exact h j k' pre wc suf lv st rest As pc index maxL fr' lo' y bytes ret ho post (by omega) hM hk hl hd hst hR hrm (fun v w hp => up _ _ _ _ _ _ (by omega) (kk v w hp))
theorem Ca.on (h : Ca l E cc own fr lo k Ω) (up : Upw Ω) (hj : j + K ≤ k) (hM : CtL l E y bytes maxL ret ho fr' lo' K As wc post) (hk : LkN y bytes maxL ret ho As.length) (hl : Cond.methodLink own index y ∈ Tw) (hd : decode cc pc = .ok (.invokestatic index, 3)) (hst : st = As.reverse ++ rest) (hR : fr' + 1 ≤ fr ∧ 8 + (maxL + 11) + lo' ≤ lo) (hrm : (rest.map fun v => v.category).sum ≤ 8) (kk : ∀ (v : Option Value) (w : va_W), post v w → Ω (j + K) w lv (v.toList ++ rest) (pc + 3)) : Ω j wc lv st pc := by
  obtain ⟨k', hk', hM⟩ := hM
  exact h.one (j := j) (k' := k') (by omega) hM hk hl hd hst hR hrm (fun v w hp => up _ _ _ _ _ _ (by omega) (kk v w hp))
/-- a contract over more cells -/
theorem Ct.frame {w : va_W} {is : List Nat} {av : List Value} (hM : Ct l E y cc maxL ret fr lo av wc post) (hC : is.map (fun i => w[i]?) = wc.map some) (hn : va_nd is = true) : Ct l E y cc maxL ret fr lo av w (fun v w9 => ∃ u : va_W, post v u ∧ w9 = mrg w is u) := by
  intro sz p e ha hc hk s m args below hf happ hp hk9
  obtain ⟨rfl, hsz, hP, hK, hD, hG⟩ := hp
  subst hsz
  have hS : va_S (va_A w s.heap.size) s.heap s.heap [] := va_S.rf
  have hF := va_free hD.self hS (fun q h => Or.inr h) is hC
  obtain ⟨n, o, h1, h2, h3, h4, L, h5, h6⟩ := hM s.heap.size p e ha hc hk s m _ below hf happ ⟨rfl, rfl, (fun k q hq => by obtain ⟨i, -, h2⟩ := cut_at hC hq; exact hP i q h2), hK, (hD.sub is hn hC).weaken (fun _ _ _ _ => trivial), Gw.narrow hG hF⟩ hk9
  refine ⟨n, o, h1, h2, h3, ?_, L, h5, fun q hq => hF _ (h6 q hq)⟩
  obtain ⟨⟨v, u, a, b, c, d⟩, hz, hq⟩ := h4
  exact ⟨⟨v, mrg w is u, a, ⟨u, b, rfl⟩, mrg_P hP (hD.self : va_D (va_A w s.heap.size) w) hC d c hq, mrg_fst hC d⟩, hz, fun q z1 z2 => hq q z1 (fun z => z2 (hF q z))⟩
theorem Ct.mono {av : List Value} {ws : va_W} {post' : Option Value → va_W → Prop} (h : Ct l E y cc maxL ret fr lo av ws post) (hp : ∀ v w, post v w → post' v w) : Ct l E y cc maxL ret fr lo av ws post' := by
  intro sz p e ha hc hk s m args below hf happ hp9 hk9
  obtain ⟨n, o, h1, h2, h3, h4, h5⟩ := h sz p e ha hc hk s m args below hf happ hp9 hk9
  refine ⟨n, o, h1, h2, h3, ?_, h5⟩
  obtain ⟨⟨v, w, a, b, c, d⟩, f⟩ := h4
  exact ⟨⟨v, w, a, hp v w b, c, d⟩, f⟩
end LCALLS
section TOTAL
variable {l : Launch} {E : Ev} {α : Nat → Nat}
abbrev Ark (E : Ev) (α : Nat → Nat) (K : Kt) (w : va_W) : Prop := Ar E α K.1 K.2.1 K.2.2.1 K.2.2.2.1 K.2.2.2.2 w
def aboutR (σ : Sg) : Nat → Int32
  | 0 => nI (sP σ) | 1 => nI (sA σ) | 2 => nI (sS σ) | 3 => nI (dkS σ 20) | 4 => nI (tkS σ 20) | 5 => nI (unlN σ 20) | 6 => nI (usN σ (sS σ)) | _ => (-9999002)
def settingR (σ : Sg) (k : Nat) : Int32 := if k < 2 then nI (sO σ k) else (-9999002)
def foundR (σ : Sg) (k w : Nat) : Int32 := if k < sS σ then (if w = 4 then nI (if usd σ k then 1 else 0) else nI (sL σ k w)) else (-9999001)
abbrev rHire (K : Kt) (x : Nat) : Int32 × Kt := if sA K.1 < 10 then (nI (sA K.1), kDo K (oHire K.1 x)) else ((-9999003), K)
abbrev rStudy (K : Kt) (p a : Nat) : Int32 × Kt := if sC K.1 p < 4 ∧ rk K.1 p a = 0 then (nI (sC K.1 p + 1), kDo K (oStudy K.1 p a)) else ((-9999003), K)
abbrev rRel (K : Kt) (p a : Nat) : Int32 × Kt := if rk K.1 p a = 0 then ((-9999003), K) else (nI (rk K.1 p a - 1), kDo K (oRel K.1 p (rk K.1 p a - 1)))
abbrev rSlip (K : Kt) (n p a h : Nat) : Int32 × Kt := if sS K.1 < 20 then (nI (sS K.1), kDo K (oSlip K.1 n p a h)) else ((-9999003), K)
abbrev rLose (K : Kt) (k : Nat) : Int32 × Kt := if k < sS K.1 then (nI (sS K.1 - 1), kDo K (oLose K.1 k)) else ((-9999001), K)
abbrev rLay (K : Kt) (w v : Nat) : Int32 × Kt := if w = 0 ∨ v < 10 then (nI (sO K.1 w), kDo K (oSet K.1 w v)) else ((-9999002), K)
abbrev rUndo (K : Kt) : Int32 × Kt := if K.2.2.1 = 0 then ((-9999003), K) else (nI (K.2.2.1 - 1), kUn K)
abbrev rBack (K : Kt) (s : Nat) : Int32 × Kt := if K.2.2.2.2 s = 1 then (nI (sS (K.2.2.2.1 s)), kRs K s) else ((-9999003), K)
theorem ct_about (hst : l.stackTraces = false) {K : Kt} {w : va_W} (hA : Ark E α K w) {k : Nat} (hk : k < 20) {u2 u3 : Int32} : CtL l E yL_call cL_call 5 (some FieldType.int) none 9 195 1 [.ref (α 0), .int (nI 2), .int (nI k), .int u2, .int u3] w (fun v9 w9 => v9 = some (.int (aboutR K.1 k)) ∧ Ark E α K w9) := by
  by_cases h9 : k < 7
  · rcases (by omega : k = 0 ∨ k = 1 ∨ k = 2 ∨ k = 3 ∨ k = 4 ∨ k = 5 ∨ k = 6) with rfl | rfl | rfl | rfl | rfl | rfl | rfl
    · exact (cl_about_0 hst hA).l1
    · exact (cl_about_1 hst hA).l1
    · exact (cl_about_2 hst hA).l1
    · exact (cl_about_3 hst hA).l1
    · exact (cl_about_4 hst hA).l1
    · exact (cl_about_5 hst hA).l1
    · exact (cl_about_6 hst hA).l1
  · obtain ⟨j, rfl⟩ : ∃ j, k = j + 7 := ⟨k - 7, by omega⟩
    exact (cl_about_no hst hA (x := nI (j + 7)) (fun z => by rw [vI_N (by omega)] at z; omega)).l
theorem ct_setting (hst : l.stackTraces = false) {K : Kt} {w : va_W} (hA : Ark E α K w) {k : Nat} (hk : k < 20) {u2 u3 : Int32} : CtL l E yL_call cL_call 5 (some FieldType.int) none 9 195 1 [.ref (α 0), .int (nI 9), .int (nI k), .int u2, .int u3] w (fun v9 w9 => v9 = some (.int (settingR K.1 k)) ∧ Ark E α K w9) := by
  unfold settingR
  by_cases h9 : k < 2
  · rw [if_pos h9]; exact (cl_setting hst hA h9).l1
  · rw [if_neg h9]
    exact (cl_setting_no hst hA (x := nI k) (fun z => by rw [vI_N (by omega)] at z; omega)).l
theorem ct_found (hst : l.stackTraces = false) {K : Kt} {w : va_W} (hA : Ark E α K w) {k x : Nat} (hk : k < 20) (hx : x < 5) {u3 : Int32} : CtL l E yL_call cL_call 5 (some FieldType.int) none 9 195 1 [.ref (α 0), .int (nI 8), .int (nI k), .int (nI x), .int u3] w (fun v9 w9 => v9 = some (.int (foundR K.1 k x)) ∧ Ark E α K w9) := by
  unfold foundR
  by_cases h9 : k < sS K.1
  · rw [if_pos h9]
    rcases (by omega : x = 0 ∨ x = 1 ∨ x = 2 ∨ x = 3 ∨ x = 4) with rfl | rfl | rfl | rfl | rfl
    · exact (cl_found_0 hst hA h9).l1
    · exact (cl_found_1 hst hA h9).l1
    · exact (cl_found_2 hst hA h9).l1
    · exact (cl_found_3 hst hA h9).l1
    · exact (cl_found_4 hst hA h9).l1
  · rw [if_neg h9]
    exact (cl_found_na hst hA (x := nI k) (fun z => by rw [vI_N (by omega)] at z; exact h9 z)).l
theorem ct_hire (hst : l.stackTraces = false) {K : Kt} {w : va_W} (hA : Ark E α K w) {x : Nat} (hx : x < 10) {u2 u3 : Int32} : CtL l E yL_call cL_call 5 (some FieldType.int) none 9 195 1 [.ref (α 0), .int (nI 10), .int (nI x), .int u2, .int u3] w (fun v9 w9 => v9 = some (.int ((rHire K x).1)) ∧ Ark E α ((rHire K x).2) w9) := by
  by_cases h9 : sA K.1 < 10
  · rw [show rHire K x = (nI (sA K.1), kDo K (oHire K.1 x)) from if_pos h9]
    exact (cl_hire hst hA hx h9).l1
  · rw [show rHire K x = ((-9999003), K) from if_neg h9]
    exact (cl_hire_full hst hA hx h9).l
theorem ct_study (hst : l.stackTraces = false) {K : Kt} {w : va_W} (hA : Ark E α K w) {p a : Nat} (hp : p < sP K.1) (ha : a < sA K.1) {u3 : Int32} : CtL l E yL_call cL_call 5 (some FieldType.int) none 9 195 1 [.ref (α 0), .int (nI 13), .int (nI p), .int (nI a), .int u3] w (fun v9 w9 => v9 = some (.int ((rStudy K p a).1)) ∧ Ark E α ((rStudy K p a).2) w9) := by
  by_cases h9 : sC K.1 p < 4 ∧ rk K.1 p a = 0
  · rw [show rStudy K p a = (nI (sC K.1 p + 1), kDo K (oStudy K.1 p a)) from if_pos h9]
    exact (cl_study hst hA hp ha h9.1 h9.2).l1
  · rw [show rStudy K p a = ((-9999003), K) from if_neg h9]
    exact (cl_study_nc hst hA hp ha h9).l
theorem ct_release (hst : l.stackTraces = false) {K : Kt} {w : va_W} (hA : Ark E α K w) {p a : Nat} (hp : p < sP K.1) (ha : a < sA K.1) {u3 : Int32} : CtL l E yL_call cL_call 5 (some FieldType.int) none 9 195 1 [.ref (α 0), .int (nI 14), .int (nI p), .int (nI a), .int u3] w (fun v9 w9 => v9 = some (.int ((rRel K p a).1)) ∧ Ark E α ((rRel K p a).2) w9) := by
  by_cases h9 : rk K.1 p a = 0
  · rw [show rRel K p a = ((-9999003), K) from if_pos h9]
    exact (cl_release_nc hst hA hp ha h9).l
  · rw [show rRel K p a = (nI (rk K.1 p a - 1), kDo K (oRel K.1 p (rk K.1 p a - 1))) from if_neg h9]
    exact (cl_release hst hA hp ha h9).l1
theorem ct_lose (hst : l.stackTraces = false) {K : Kt} {w : va_W} (hA : Ark E α K w) {k : Nat} (hk : k < 2147483648) {u2 u3 : Int32} : CtL l E yL_call cL_call 5 (some FieldType.int) none 9 195 1 [.ref (α 0), .int (nI 15), .int (nI k), .int u2, .int u3] w (fun v9 w9 => v9 = some (.int ((rLose K k).1)) ∧ Ark E α ((rLose K k).2) w9) := by
  by_cases h9 : k < sS K.1
  · rw [show rLose K k = (nI (sS K.1 - 1), kDo K (oLose K.1 k)) from if_pos h9]
    exact (cl_lose hst hA h9).l1
  · rw [show rLose K k = ((-9999001), K) from if_neg h9]
    exact (cl_lose_no hst hA (x := nI k) (fun z => by rw [vI_N hk] at z; exact h9 z)).l
theorem ct_lay (hst : l.stackTraces = false) {K : Kt} {w : va_W} (hA : Ark E α K w) {x v : Nat} (hx : x < 2) (hv : v < 12) {u3 : Int32} : CtL l E yL_call cL_call 5 (some FieldType.int) none 9 195 1 [.ref (α 0), .int (nI 16), .int (nI x), .int (nI v), .int u3] w (fun v9 w9 => v9 = some (.int ((rLay K x v).1)) ∧ Ark E α ((rLay K x v).2) w9) := by
  rcases (by omega : x = 0 ∨ x = 1) with rfl | rfl
  · rw [show rLay K 0 v = (nI (sO K.1 0), kDo K (oSet K.1 0 v)) from if_pos (Or.inl rfl)]
    exact (cl_lay_0 hst hA (by omega)).l1
  · by_cases h9 : v < 10
    · rw [show rLay K 1 v = (nI (sO K.1 1), kDo K (oSet K.1 1 v)) from if_pos (Or.inr h9)]
      exact (cl_lay_1 hst hA h9).l1
    · rw [show rLay K 1 v = ((-9999002), K) from if_neg (by omega)]
      exact (cl_lay_nb1 hst hA (x := nI v) (fun z => by rw [vI_N (by omega)] at z; exact h9 z)).l
theorem ct_undo (hst : l.stackTraces = false) {K : Kt} {w : va_W} (hA : Ark E α K w)  {u1 u2 u3 : Int32} : CtL l E yL_call cL_call 5 (some FieldType.int) none 9 195 1 [.ref (α 0), .int (nI 17), .int u1, .int u2, .int u3] w (fun v9 w9 => v9 = some (.int ((rUndo K).1)) ∧ Ark E α ((rUndo K).2) w9) := by
  by_cases h9 : K.2.2.1 = 0
  · rw [show rUndo K = ((-9999003), K) from if_pos h9]
    exact (cl_undo_no hst hA h9).l
  · rw [show rUndo K = (nI (K.2.2.1 - 1), kUn K) from if_neg h9]
    exact (cl_undo hst hA h9).l1
theorem ct_back (hst : l.stackTraces = false) {K : Kt} {w : va_W} (hA : Ark E α K w) {k : Nat} (hk : k < 2) {u2 u3 : Int32} : CtL l E yL_call cL_call 5 (some FieldType.int) none 9 195 1 [.ref (α 0), .int (nI 24), .int (nI k), .int u2, .int u3] w (fun v9 w9 => v9 = some (.int ((rBack K k).1)) ∧ Ark E α ((rBack K k).2) w9) := by
  by_cases h9 : K.2.2.2.2 k = 1
  · rw [show rBack K k = (nI (sS (K.2.2.2.1 k)), kRs K k) from if_pos h9]
    exact (cl_back hst hA hk h9).l1
  · rw [show rBack K k = ((-9999003), K) from if_neg h9]
    exact (cl_back_nb hst hA hk h9).l
theorem ct_slip (hst : l.stackTraces = false) {K : Kt} {w : va_W} (hA : Ark E α K w) {n p a k : Nat} (hn : n < 20) (hp : p < sP K.1) (ha : a < sA K.1) (hk : k < 24) : CtL l E yL_addSlip method_3_code 6 (some FieldType.int) (some [(0, 9, 10, 13), (0, 9, 15, 20), (0, 9, 20, 23)]) 8 136 1 [.ref (α 0), .int (nI n), .int (nI p), .int (nI a), .int (nI k)] w (fun v9 w9 => v9 = some (.int ((rSlip K n p a k).1)) ∧ Ark E α ((rSlip K n p a k).2) w9) := by
  by_cases h9 : sS K.1 < 20
  · rw [show rSlip K n p a k = (nI (sS K.1), kDo K (oSlip K.1 n p a k)) from if_pos h9]
    exact (t_slip hst hA hn hp ha hk h9).l1
  · rw [show rSlip K n p a k = ((-9999003), K) from if_neg h9]
    exact (t_slip_ne hst hA hn hp ha hk h9).l
end TOTAL
section NEEDED
variable {l : Launch} {E : Ev} {α : Nat → Nat} {σ : Sg} {hs : Nat → Sg} {cnt : Nat} {ks : Nat → Sg} {kd : Nat → Nat} {w : va_W}
theorem Ar.at0 (h : Ar E α σ hs cnt ks kd w) : ∃ fs : List Value, w[0]? = some ((α 0), .inr (5, fs)) := by
  obtain ⟨od, sz, par, fre, pri, sls, drk, pla, tks, par1, fre1, pri1, sls1, drk1, pla1, tks1, sd, st, par3, fre3, pri3, sls3, drk3, pla3, tks3, f, f2, D, K, Z, tx, t1, t2, t3, r1, r2, r3, s1, s2, s3, bl, rfl, -⟩ := h
  exact ⟨_, rfl⟩
set_option maxRecDepth 100000 in
theorem nd_ar (hA : Ar E α σ hs cnt ks kd w) : Ct l E yX5_needed cX5_needed 5 (some FieldType.int) 5 117 [.ref (α 0)] w (fun v9 w9 => v9 = some (.int (mI ((nd σ (sA σ)).1))) ∧ Ar E α σ hs cnt ks kd w9) := by
  obtain ⟨od, sz, par, fre, pri, sls, drk, pla, tks, par1, fre1, pri1, sls1, drk1, pla1, tks1, sd, st, par3, fre3, pri3, sls3, drk3, pla3, tks3, f, f2, D, K, Z, tx, t1, t2, t3, r1, r2, r3, s1, s2, s3, bl, rfl, hW, hRC, hHC, hKC⟩ := hA
  refine (Ct.frame (is := [0, 1, 2, 3, 4, 19, 20, 21, 22, 23]) (c_X5_needed (hB := (α 0)) (b1 := (α 1)) (b2 := (α 2)) (b3 := (α 3)) (b4 := (α 4)) (b5 := (α 5)) (b6 := (α 6)) (b7 := (α 7)) (b8 := (α 8)) (b9 := (α 9)) (b10 := (α 10)) (c1 := (α 12)) (f := f) (σ := σ) (c2 := (α 13)) (f2 := f2) (b11 := (α 11)) (sd := sd) (st := st) (e1 := (α 22)) (e2 := (α 23)) (e3 := (α 24)) (par := par3) (fre := fre3) (pri := pri3) (sls := sls3) (drk := drk3) (pla := pla3) (tks := tks3) (t1 := s1) (t2 := s2) (t3 := s3) (hR := hRC) (hW := hW)) rfl rfl).mono ?_
  rintro v9 w9 ⟨u, ⟨z0, z1, z2, z3, z4, z5, z6, z7, z8, z9, z10, z11, z12, rfl, rfl⟩, rfl⟩
  exact ⟨rfl, ⟨od, sz, par, fre, pri, sls, drk, pla, tks, par1, fre1, pri1, sls1, drk1, pla1, tks1, z0, z1, z2, z3, z4, z5, z6, z7, z8, f, z12, D, K, Z, tx, t1, t2, t3, r1, r2, r3, z9, z10, z11, bl, rfl, hW, hRC, hHC, hKC⟩⟩
theorem r_needed {cc : ByteArray} {nL : Nat} {own : String} {fr lo kc ks9 : Nat} {ω : Om} {lv : List (Nat × Value)} {rest : List Value} {pc index : Nat} {pre suf : va_W} (C : Cw l E cc nL own fr lo kc ks9 ω) (hA : Ar E α σ hs cnt ks kd w) (hl : Cond.methodLink own index yX5_needed ∈ Tw) (hd : decode cc pc = .ok (.invokevirtual index, 3)) (hR : 5 + 1 ≤ fr ∧ 8 + (5 + 11) + 117 ≤ lo) (hrm : (rest.map fun v => v.category).sum ≤ 8) (kk : ∀ w9 : va_W, Ar E α σ hs cnt ks kd w9 → ω (pre ++ (w9 ++ suf)) lv (.int (mI ((nd σ (sA σ)).1)) :: rest) (pc + 3)) : ω (pre ++ (w ++ suf)) lv (.ref (α 0) :: rest) pc := by
  obtain ⟨fs, h0⟩ := hA.at0
  refine r_callV (rest := rest) C (nd_ar hA) lk_X5_needed hl (List.range' pre.length w.length) (ci := 5) rfl hd rfl (cutM pre w suf) (ndR _ _) h0 hR hrm (fun v9 w9 hp => ?_)
  obtain ⟨rfl, hA9⟩ := hp
  rw [mrgM w pre suf w9 (by rw [hA9.len, hA.len])]
  exact kk w9 hA9
end NEEDED
