/-! calls over ω: the callee's world is cut out of the caller's by places, and put back there -/
def mrg : va_W → List Nat → va_W → va_W
  | ws, i :: is, q :: cs => mrg (ws.set i q) is cs
  | ws, _, _ => ws
theorem mrg_at {is : List Nat} : ∀ {ws cs : va_W} {k : Nat} {q : Nat × va_E}, is.length = cs.length → (mrg ws is cs)[k]? = some q → (∃ j : Nat, is[j]? = some k ∧ cs[j]? = some q) ∨ (k ∉ is ∧ ws[k]? = some q) := by
  induction is with
  | nil => intro ws cs k q h1 h2; exact Or.inr ⟨by simp, by simpa [mrg] using h2⟩
  | cons i is ih =>
    intro ws cs k q h1 h2
    cases cs with
    | nil => simp at h1
    | cons c cs =>
      rw [mrg] at h2
      rcases ih (by simpa using h1) h2 with ⟨j, a1, a2⟩ | ⟨a1, a2⟩
      · exact Or.inl ⟨j + 1, by simpa using a1, by simpa using a2⟩
      · rw [List.getElem?_set] at a2
        by_cases hik : i = k
        · rw [if_pos hik] at a2
          by_cases hl : i < ws.length
          · rw [if_pos hl] at a2
            exact Or.inl ⟨0, by simp [hik], by simpa using a2⟩
          · rw [if_neg hl] at a2; cases a2
        · rw [if_neg hik] at a2
          exact Or.inr ⟨fun h => (List.mem_cons.mp h).elim (fun e => hik e.symm) a1, a2⟩
theorem cut_at {is : List Nat} {ws wc : va_W} (hC : is.map (fun i => ws[i]?) = wc.map some) {j : Nat} {q : Nat × va_E} (hq : wc[j]? = some q) : ∃ i : Nat, is[j]? = some i ∧ ws[i]? = some q := by
  have h1 : (is.map (fun i => ws[i]?))[j]? = some (some q) := by rw [hC, List.getElem?_map, hq]; rfl
  rw [List.getElem?_map] at h1
  cases hi : is[j]? with
  | none => rw [hi] at h1; cases h1
  | some i => rw [hi] at h1; exact ⟨i, rfl, Option.some.inj h1⟩
theorem fst_at {w wc : va_W} (h : w.map Prod.fst = wc.map Prod.fst) {j : Nat} {q : Nat × va_E} (hq : w[j]? = some q) : ∃ e : va_E, wc[j]? = some (q.1, e) := by
  have h1 : (wc.map Prod.fst)[j]? = some q.1 := by rw [← h, List.getElem?_map, hq]; rfl
  rw [List.getElem?_map] at h1
  cases hi : wc[j]? with
  | none => rw [hi] at h1; cases h1
  | some z => rw [hi] at h1; exact ⟨z.2, by rw [← Option.some.inj h1]⟩
theorem len_cut {is : List Nat} {ws wc : va_W} (hC : is.map (fun i => ws[i]?) = wc.map some) : is.length = wc.length := by
  have h := congrArg List.length hC
  simpa using h
theorem len_fst {w wc : va_W} (h : w.map Prod.fst = wc.map Prod.fst) : w.length = wc.length := by
  have h := congrArg List.length h
  simpa using h
theorem mrg_src {is : List Nat} {ws wc w : va_W} (hC : is.map (fun i => ws[i]?) = wc.map some) (hf : w.map Prod.fst = wc.map Prod.fst) {k : Nat} {q : Nat × va_E} (hq : (mrg ws is w)[k]? = some q) : ∃ e : va_E, ws[k]? = some (q.1, e) := by
  rcases mrg_at (by rw [len_cut hC, len_fst hf]) hq with ⟨j, a1, a2⟩ | ⟨-, a2⟩
  · obtain ⟨e, he⟩ := fst_at hf a2
    obtain ⟨i, b1, b2⟩ := cut_at hC he
    rw [b1] at a1
    cases a1
    exact ⟨e, b2⟩
  · exact ⟨q.2, a2⟩
theorem mrg_D {A : Nat → Prop} {is : List Nat} {ws wc w : va_W} (hD : va_D A ws) (hC : is.map (fun i => ws[i]?) = wc.map some) (hf : w.map Prod.fst = wc.map Prod.fst) : va_D A (mrg ws is w) := by
  refine ⟨fun i j p q hp hq hpq => ?_, fun k q hk => ?_⟩
  · obtain ⟨e1, h1⟩ := mrg_src hC hf hp
    obtain ⟨e2, h2⟩ := mrg_src hC hf hq
    exact hD.1 i j _ _ h1 h2 hpq
  · obtain ⟨e, h⟩ := mrg_src hC hf hk
    exact hD.2 k (q.1, e) h
theorem mrg_P {A : Nat → Prop} {D : va_G} {cl : List vw_C} {is : List Nat} {ws wc w : va_W} {H H1 : Heap} (hP : va_P D cl ws H) (hD : va_D A ws) (hC : is.map (fun i => ws[i]?) = wc.map some) (hf : w.map Prod.fst = wc.map Prod.fst) (hP1 : va_P D cl w H1) (hk : ∀ q : Nat, q < H.size → ¬ va_A wc H.size q → H1[q]? = H[q]?) : va_P D cl (mrg ws is w) H1 := by
  intro k q hq
  rcases mrg_at (by rw [len_cut hC, len_fst hf]) hq with ⟨j, -, a2⟩ | ⟨a1, a2⟩
  · exact hP1 j q a2
  · have hl := (hP k q a2).lt
    refine (hP k q a2).kept (hk q.1 hl fun h => ?_)
    rcases h with ⟨j, e, h⟩ | h
    · obtain ⟨i, b1, b2⟩ := cut_at hC h
      have hik := hD.1 k i q _ a2 b2 rfl
      subst hik
      exact a1 (List.mem_of_getElem? b1)
    · omega
theorem mrg_self {is : List Nat} : ∀ {ws wc : va_W}, is.map (fun i => ws[i]?) = wc.map some → mrg ws is wc = ws := by
  induction is with
  | nil => intro ws wc _; cases wc <;> rfl
  | cons i is ih =>
    intro ws wc h
    cases wc with
    | nil => rfl
    | cons c cs =>
      rw [List.map_cons, List.map_cons] at h
      obtain ⟨h1, h2⟩ := List.cons.inj h
      have e : ws.set i c = ws := by
        refine List.ext_getElem? fun j => ?_
        rw [List.getElem?_set]
        by_cases hij : i = j
        · rw [if_pos hij]
          by_cases hl : i < ws.length
          · rw [if_pos hl, ← hij]; exact h1.symm
          · rw [List.getElem?_eq_none (by omega)] at h1; cases h1
        · rw [if_neg hij]
      rw [mrg, e]
      exact ih h2
theorem gdT {c0 : Cond} (h : c0 ∈ Tw) : GoodIn Tw (c0 :: Tw) := by
  intro w hw
  rcases List.mem_cons.mp hw with e | h1
  · rw [e]; exact ⟨h, good_of_word (Tw_good _ h)⟩
  · exact ⟨h1, good_of_word (Tw_good _ h1)⟩
/-- what the tables say of a method that is called by an object, or by its class -/
def LkV (y : MethodName) (bytes : ByteArray) (maxL : Nat) (ret : Option FieldType) (n : Nat) : Prop := Cond.instanceMethod y ∈ Tw ∧ Cond.selects y.cls y y ∈ Tw ∧ Cond.code y bytes maxL ret ∈ Tw ∧ Cond.initialized y.cls ∈ Tw ∧ (y.cls ≠ "java/lang/invoke/MethodHandle" ∧ y.cls ≠ "java/lang/invoke/VarHandle" ∧ (parseMethodDescriptor y.desc).map (fun d => d.parameters.length) = some n)
def LkS (y : MethodName) (bytes : ByteArray) (maxL : Nat) (ret : Option FieldType) (n : Nat) : Prop := Cond.static y ∈ Tw ∧ Cond.code y bytes maxL ret ∈ Tw ∧ Cond.initialized y.cls ∈ Tw ∧ (y.cls ≠ "java/lang/invoke/MethodHandle" ∧ y.cls ≠ "java/lang/invoke/VarHandle" ∧ (parseMethodDescriptor y.desc).map (fun d => d.parameters.length) = some n)
section CALLS
variable {p : Program} {l : Launch} {e : Env} {R : Room} {s : State} {m : MethodId} {args : Array Value} {below : List Frame} {meth : Method} {c : Code} {H : Heap} {locs : List Loc} {Q : State → Prop} {E : Ev} {kc ks : Nat} {pc : Nat} {ls : Array Slot} {st0 rest : List Value}
theorem Gw_cut {A : Nat → Prop} {wc : va_W} (hG : Gw E A s s.heap) (hS : va_S A s.heap H locs) (hF : ∀ q, va_A wc H.size q → A q) {U : State} (hU : U.heap = H) (hW : s.WarmedH U.vm) : Gw E (va_A wc H.size) U U.heap := by
  rw [hU]
  exact Gw.warm hW (Gw.narrow (Gw.kept hG hS.2.1) hF)
theorem Pr_cut {A : Nat → Prop} {ws wc : va_W} {is : List Nat} (hK : va_K E.1 vwCl (tyE E) s) (hG : Gw E A s s.heap) (hA : ∀ q : Nat, s.heap.size ≤ q → A q) (hP : va_P E.1 vwCl ws H) (hD : va_D A ws) (hS : va_S A s.heap H locs) (hC : is.map (fun i => ws[i]?) = wc.map some) (hn : va_nd is = true) {U : State} (hU : U.heap = H) (hW : s.WarmedH U.vm) : Pr E wc H.size U := by
  refine ⟨by rw [hU], ?_, va_K.moved hW.alike hK, (hD.sub is hn hC).weaken (fun _ _ _ _ => trivial), Gw_cut (wc := wc) hG hS (va_free hD hS hA is hC) hU hW⟩
  rw [hU]
  intro k q hq
  obtain ⟨i, -, h2⟩ := cut_at hC hq
  exact hP i q h2
/-- behind a call that returned -/
theorem run_on {A : Nat → Prop} {ws wc : va_W} {is : List Nat} {post : Option Value → va_W → Prop} {a : Array Value} (hP : va_P E.1 vwCl ws H) (hD : va_D A ws) (hS : va_S A s.heap H locs) (hA : ∀ q : Nat, s.heap.size ≤ q → A q) (hC : is.map (fun i => ws[i]?) = wc.map some)
    (hr : va_Run p l e R s m args below meth c H locs kc ks 0 0 (F0 m pc ls st0) rest (Po E wc H.size post a) (va_A wc H.size))
    (kk : ∀ (v : Option Value) (w : va_W) (H1 : Heap) (locs1 : List Loc), post v w → va_P E.1 vwCl (mrg ws is w) H1 → va_D A (mrg ws is w) → va_S A s.heap H1 locs1 → W p l e R s m args below meth c H1 locs1 kc ks Q (F0 m (pc + 3) ls (v.toList ++ rest))) : W p l e R s m args below meth c H locs kc ks Q (F0 m pc ls st0) := by
  have hF := va_free hD hS hA is hC
  intro T hT X
  obtain ⟨v, st₀, t, T', L, h0, X', hL, e1, e2, ⟨⟨v', w, hv, hp, hP1, hfst⟩, hz, hk⟩, st⟩ := hr T hT X
  cases hv
  rw [h0] at hz hk
  rw [← e1] at hz hk hP1
  obtain ⟨t2, a1, b1⟩ := kk v w T'.heap (locs ++ L) hp (mrg_P hP hD hC hfst hP1 hk) (mrg_D hD hC hfst)
    ⟨Nat.le_trans hS.1 hz, fun q h1 h2 => by rw [hk q (Nat.lt_of_lt_of_le h1 hS.1) (fun z => h2 (hF q z))]; exact hS.2.1 q h1 h2, fun q hq => by
      rcases List.mem_append.mp hq with h | h
      · exact hS.2.2 q h
      · exact hF _ (hL q h)⟩ T' rfl X'
  exact ⟨t2, st t2 a1, b1⟩
theorem cB {index maxL fr lo kc' ks' : Nat} {own : String} {y : MethodName} {bytes : ByteArray} {ret : Option FieldType} (n : Nat) (hts : ∀ w ∈ Tw, w.before args s = true) (hcode : Cond.code y bytes maxL ret ∈ Tw) (hini : Cond.initialized y.cls ∈ Tw) (hl : Cond.methodLink own index y ∈ Tw) (hd : y.cls ≠ "java/lang/invoke/MethodHandle" ∧ y.cls ≠ "java/lang/invoke/VarHandle" ∧ (parseMethodDescriptor y.desc).map (fun d => d.parameters.length) = some n) (hR : fr + 1 ≤ R.frames ∧ 8 + (maxL + 11) + lo ≤ R.locals) :
    CallB R s args own index y bytes maxL ret (.code y bytes maxL ret :: Tw) ({ frames := fr, cells := kc', slots := ks', locals := lo }) kc' ks' n :=
  callB_of n hts (gdT hcode) rfl rfl rfl (hts _ hini) (hts _ hl) hd hR
end CALLS
section CROWS
variable {l : Launch} {E : Ev} {cc : ByteArray} {nL : Nat} {own : String} {fr lo kc ks : Nat} {ω : Om} {ws wc : va_W} {lv : List (Nat × Value)} {st rest As : List Value} {pc index maxL fr' lo' b ci : Nat} {y : MethodName} {bytes : ByteArray} {ret : Option FieldType} {post : Option Value → va_W → Prop} {fs : List Value} {T : u_T} {N : Nat}
theorem r_callV (C : Cw l E cc nL own fr lo kc ks ω) (hM : Ct l E y bytes maxL ret fr' lo' (.ref b :: As) wc post) (hk : LkV y bytes maxL ret As.length) (hl : Cond.methodLink own index y ∈ Tw) (is : List Nat) (hc : vwCl[ci]? = some (y.cls, T, N)) (hd : decode cc pc = .ok (.invokevirtual index, 3)) (hst : st = As.reverse ++ .ref b :: rest) (hC : is.map (fun i => ws[i]?) = wc.map some) (hn : va_nd is = true) (hr : wc[0]? = some (b, .inr (ci, fs))) (hR : fr' + 1 ≤ fr ∧ 8 + (maxL + 11) + lo' ≤ lo) (hrm : (rest.map fun v => v.category).sum ≤ 8)
    (kk : ∀ (v : Option Value) (w : va_W), post v w → ω (mrg ws is w) lv (v.toList ++ rest) (pc + 3)) : ω ws lv st pc := by
  obtain ⟨p, e, R, s, m, args, below, meth, c, A, Q, hx, hb, hml, hown, hts, hK, hA, hG, hfr, hlo, hkc, hks, rfl⟩ := C
  intro H locs ls hP hD hS hl9
  obtain ⟨k1, k2, k3, k4, k5⟩ := hk
  subst hfr; subst hlo
  have hPc : va_P E.1 vwCl wc H := fun k q hq => by obtain ⟨i, -, h2⟩ := cut_at hC hq; exact hP i q h2
  refine run_on hP hD hS hA hC (va_runV (As := As) (rest := rest) (b := b) (C := y.cls) (index := index) ⟨hx, hb, hml, hown, hts⟩ (hM H.size) ⟨cB As.length hts k3 k4 hl k5 hR, hts _ k1, hts _ k2⟩ ⟨Pr_blind, va_recv (tys := tyE E) hK hPc hc hr, fun U hU hW => ⟨rfl, Pr_cut hK hG hA hP hD hS hC hn hU hW⟩⟩ rfl rfl hl9.1 hst (lv_room hrm) hd ⟨hkc, hks⟩) ?_
  intro v w H1 locs1 hp hP1 hD1 hS1
  exact kk v w hp H1 locs1 ls hP1 hD1 hS1 hl9
theorem r_callS (C : Cw l E cc nL own fr lo kc ks ω) (hM : Ct l E y bytes maxL ret fr' lo' As wc post) (hk : LkS y bytes maxL ret As.length) (hl : Cond.methodLink own index y ∈ Tw) (is : List Nat) (hd : decode cc pc = .ok (.invokestatic index, 3)) (hst : st = As.reverse ++ rest) (hC : is.map (fun i => ws[i]?) = wc.map some) (hn : va_nd is = true) (hR : fr' + 1 ≤ fr ∧ 8 + (maxL + 11) + lo' ≤ lo) (hrm : (rest.map fun v => v.category).sum ≤ 8)
    (kk : ∀ (v : Option Value) (w : va_W), post v w → ω (mrg ws is w) lv (v.toList ++ rest) (pc + 3)) : ω ws lv st pc := by
  obtain ⟨p, e, R, s, m, args, below, meth, c, A, Q, hx, hb, hml, hown, hts, hK, hA, hG, hfr, hlo, hkc, hks, rfl⟩ := C
  intro H locs ls hP hD hS hl9
  obtain ⟨k1, k3, k4, k5⟩ := hk
  subst hfr; subst hlo
  refine run_on hP hD hS hA hC (va_runS (As := As) (rest := rest) (index := index) ⟨hx, hb, hml, hown, hts⟩ (hM H.size) ⟨cB As.length hts k3 k4 hl k5 hR, hts _ k1⟩ ⟨Pr_blind, fun U hU hW => ⟨rfl, Pr_cut hK hG hA hP hD hS hC hn hU hW⟩⟩ rfl rfl hl9.1 hst (lv_room hrm) hd ⟨hkc, hks⟩) ?_
  intro v w H1 locs1 hp hP1 hD1 hS1
  exact kk v w hp H1 locs1 ls hP1 hD1 hS1 hl9
/-- a private static method of the nest's host -/
theorem r_callSN {host : String} (C : Cw l E cc nL own fr lo kc ks ω) (hM : Ct l E y bytes maxL ret fr' lo' As wc post) (hk : LkS y bytes maxL ret As.length) (hl : (own, index, y, host) ∈ nestL) (is : List Nat) (hd : decode cc pc = .ok (.invokestatic index, 3)) (hst : st = As.reverse ++ rest) (hC : is.map (fun i => ws[i]?) = wc.map some) (hn : va_nd is = true) (hR : fr' + 1 ≤ fr ∧ 8 + (maxL + 11) + lo' ≤ lo) (hrm : (rest.map fun v => v.category).sum ≤ 8)
    (kk : ∀ (v : Option Value) (w : va_W), post v w → ω (mrg ws is w) lv (v.toList ++ rest) (pc + 3)) : ω ws lv st pc := by
  obtain ⟨p, e, R, s, m, args, below, meth, c, A, Q, hx, hb, hml, hown, hts, hK, hA, hG, hfr, hlo, hkc, hks, rfl⟩ := C
  intro H locs ls hP hD hS hl9
  obtain ⟨k1, k3, k4, k5⟩ := hk
  subst hfr; subst hlo
  refine run_on hP hD hS hA hC (va_runSN (As := As) (rest := rest) (index := index) (host := host) ⟨hx, hb, hml, hown, hts⟩ (hM H.size) ⟨va_cnB As.length hts (gdT k3) rfl rfl rfl (hG.1 _ hl) (hts _ k4) k5 hR, hts _ k1, trivial⟩ ⟨Pr_blind, fun U hU hW => ⟨rfl, Pr_cut hK hG hA hP hD hS hC hn hU hW⟩⟩ rfl rfl hl9.1 hst (lv_room hrm) hd ⟨hkc, hks⟩) ?_
  intro v w H1 locs1 hp hP1 hD1 hS1
  exact kk v w hp H1 locs1 ls hP1 hD1 hS1 hl9
/-- calls that only read -/
theorem r_readV {rv : Option Value} {st' : List Value} (C : Cw l E cc nL own fr lo kc ks ω) (hM : Cr l E y bytes maxL ret fr' lo' (.ref b :: As) wc rv) (hk : LkV y bytes maxL ret As.length) (hl : Cond.methodLink own index y ∈ Tw) (is : List Nat) (hc : vwCl[ci]? = some (y.cls, T, N)) (hd : decode cc pc = .ok (.invokevirtual index, 3)) (hst : st = As.reverse ++ .ref b :: rest) (hC : is.map (fun i => ws[i]?) = wc.map some) (hn : va_nd is = true) (hr : wc[0]? = some (b, .inr (ci, fs))) (hR : fr' + 1 ≤ fr ∧ 8 + (maxL + 11) + lo' ≤ lo) (hrm : (rest.map fun v => v.category).sum ≤ 8) (hst' : rv.toList ++ rest = st')
    (kk : ω ws lv st' (pc + 3)) : ω ws lv st pc := by
  refine r_callV C hM hk hl is hc hd hst hC hn hr hR hrm ?_
  intro v w h
  obtain ⟨rfl, rfl⟩ := h
  rw [mrg_self hC, hst']
  exact kk
theorem r_readS {rv : Option Value} {st' : List Value} (C : Cw l E cc nL own fr lo kc ks ω) (hM : Cr l E y bytes maxL ret fr' lo' As wc rv) (hk : LkS y bytes maxL ret As.length) (hl : Cond.methodLink own index y ∈ Tw) (is : List Nat) (hd : decode cc pc = .ok (.invokestatic index, 3)) (hst : st = As.reverse ++ rest) (hC : is.map (fun i => ws[i]?) = wc.map some) (hn : va_nd is = true) (hR : fr' + 1 ≤ fr ∧ 8 + (maxL + 11) + lo' ≤ lo) (hrm : (rest.map fun v => v.category).sum ≤ 8) (hst' : rv.toList ++ rest = st')
    (kk : ω ws lv st' (pc + 3)) : ω ws lv st pc := by
  refine r_callS C hM hk hl is hd hst hC hn hR hrm ?_
  intro v w h
  obtain ⟨rfl, rfl⟩ := h
  rw [mrg_self hC, hst']
  exact kk
theorem r_readSN {host : String} {rv : Option Value} {st' : List Value} (C : Cw l E cc nL own fr lo kc ks ω) (hM : Cr l E y bytes maxL ret fr' lo' As wc rv) (hk : LkS y bytes maxL ret As.length) (hl : (own, index, y, host) ∈ nestL) (is : List Nat) (hd : decode cc pc = .ok (.invokestatic index, 3)) (hst : st = As.reverse ++ rest) (hC : is.map (fun i => ws[i]?) = wc.map some) (hn : va_nd is = true) (hR : fr' + 1 ≤ fr ∧ 8 + (maxL + 11) + lo' ≤ lo) (hrm : (rest.map fun v => v.category).sum ≤ 8) (hst' : rv.toList ++ rest = st')
    (kk : ω ws lv st' (pc + 3)) : ω ws lv st pc := by
  refine r_callSN C hM hk hl is hd hst hC hn hR hrm ?_
  intro v w h
  obtain ⟨rfl, rfl⟩ := h
  rw [mrg_self hC, hst']
  exact kk
end CROWS
