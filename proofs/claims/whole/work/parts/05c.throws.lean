/-! methods that throw: an exception is made and thrown, the world as it was -/
def Tz (E : Ev) (cc : ByteArray) (own : String) (fr lo : Nat) (X : String) (ws0 : va_W) (ω : Om) : Prop :=
  (∀ (lv : List (Nat × Value)) (st : List Value) (pc ik is ic j : Nat) (tx : String) (names : List String), Bundle.fit X = true → (∀ n ∈ names, Bundle.fit n = true) → Cond.classLink own ik X ∈ Tw → Cond.initialized X ∈ Tw → strL[j]? = some (own, is, tx) → (∀ w ∈ vx_atS own ic X names, w ∈ Tw ∨ w ∈ thL) → (∀ w ∈ Cond.classLink own ik X :: Cond.initialized X :: vx_atS own ic X names, vx_ot w = true) →
    decode cc pc = .ok (.new ik, 3) → decode cc (pc + 3) = .ok (.dup, 1) → decode cc (pc + 4) = .ok (.ldc is, 2) → decode cc (pc + 6) = .ok (.invokespecial ic, 3) → decode cc (pc + 9) = .ok (.athrow, 1) → names.length + 3 < fr → (st.map fun v => v.category).sum + (13 * (names.length + 1) + 43) ≤ lo → ω ws0 lv st pc) ∧
  (∀ (lv : List (Nat × Value)) (st : List Value) (pc ik is ic j : Nat) (tx : String) (names : List String), Bundle.fit X = true → (∀ n ∈ names, Bundle.fit n = true) → Cond.classLink own ik X ∈ Tw → Cond.initialized X ∈ Tw → strL[j]? = some (own, is, tx) → (∀ w ∈ vx_atS own ic X names, w ∈ Tw ∨ w ∈ thL) → (∀ w ∈ Cond.classLink own ik X :: Cond.initialized X :: vx_atS own ic X names, vx_ot w = true) →
    decode cc pc = .ok (.new ik, 3) → decode cc (pc + 3) = .ok (.dup, 1) → decode cc (pc + 4) = .ok (.ldc_w is, 3) → decode cc (pc + 7) = .ok (.invokespecial ic, 3) → decode cc (pc + 10) = .ok (.athrow, 1) → names.length + 3 < fr → (st.map fun v => v.category).sum + (13 * (names.length + 1) + 43) ≤ lo → ω ws0 lv st pc)
set_option maxHeartbeats 1000000 in
theorem th_of {l : Launch} {E : Ev} {y : MethodName} {cc : ByteArray} {maxL : Nat} {ret : Option FieldType} {fr lo : Nat} {av : List Value} {ws : va_W} {X : String} (hst : l.stackTraces = false) (hy : plainName y.cls = true) (hlen : (lg_sl av).length ≤ maxL) (body : ∀ ω : Om, Cw l E cc maxL y.cls fr lo 0 0 ω → Tz E cc y.cls fr lo X ws ω → ω ws (lv_args 0 av) [] 0) : Th l E y cc maxL ret fr lo av ws X := by
  intro sz
  refine vx_ofW (cc := cc) (maxL := maxL) (ret := ret) hy rfl ?_
  intro p e s m args below meth c s₁ B hml hex hv
  obtain ⟨rfl, hsz, hP, hK, hD0, hG⟩ := hv
  have hts := atoms_spec (ws := .code y cc maxL ret :: Tw) B.pre
  have hown : s.vm.findClass y.cls = some m.cls := findClass_of_methodNamed B.named
  have hx := B.exec
  have hb := B.bytes
  have hlocks := B.notSynchronized
  subst hsz
  rw [lg_entry_eq]
  have hl := lv_entry av hlen
  refine body (fun ws lv st pc => ∀ (H : Heap) (locs : List Loc) (ls : Array Slot), va_P E.1 vwCl ws H → va_D _ ws → va_S _ s.heap H locs → lv_has ls maxL lv → W p l e _ s m _ below meth c H locs 0 0 _ (F0 m pc ls st)) ⟨p, e, _, s, m, _, below, meth, c, va_A ws s.heap.size, _, hx, hb, hml, hown, fun w h => hts w (List.mem_cons_of_mem _ h), hK, fun q h => Or.inr h, hG, rfl, rfl, Nat.zero_le _, Nat.zero_le _, rfl⟩ ⟨?_, ?_⟩ s.heap [] _ hP hD0.self va_S.rf hl
  · intro lv st pc ik is ic j tx names h1 h2 h3 h4 h5 h6 h7 d0 d3 d4 d6 d9 hf hlo H locs ls hP hD hS hl
    refine vx_throwS hx hb hst hown h1 h2 (hts _ (List.mem_cons_of_mem _ h3)) (hts _ (List.mem_cons_of_mem _ h4)) (hG.2.1 j _ h5) (fun w hw => (h6 w hw).elim (fun z => hts _ (List.mem_cons_of_mem _ z)) (fun z => va_Nw.use (thL_ot w z) (hG.2.2.2.2.2.2.2 w z))) h7 hG.2.2.1 hG.2.2.2.1 hS (hl.1.trans hml.symm) d0 d3 d4 d6 d9 (fun x hx => (hex x hx).elim) hf hlo (by show 0 + 1 ≤ 1; omega) (by show 0 + 6 ≤ 6; omega) hlocks ?_ hS.2.2 (by omega) (by omega)
    intro t ht hsz hq
    exact ⟨rfl, hP.kept (fun k q hk => hq q.1 (hP k q hk).lt), Nat.le_trans hS.1 hsz, fun q h1 h2 => (hq q (Nat.lt_of_lt_of_le h1 hS.1)).trans (hS.2.1 q h1 h2)⟩
  · intro lv st pc ik is ic j tx names h1 h2 h3 h4 h5 h6 h7 d0 d3 d4 d6 d9 hf hlo H locs ls hP hD hS hl
    refine vx_throwSW hx hb hst hown h1 h2 (hts _ (List.mem_cons_of_mem _ h3)) (hts _ (List.mem_cons_of_mem _ h4)) (hG.2.1 j _ h5) (fun w hw => (h6 w hw).elim (fun z => hts _ (List.mem_cons_of_mem _ z)) (fun z => va_Nw.use (thL_ot w z) (hG.2.2.2.2.2.2.2 w z))) h7 hG.2.2.1 hG.2.2.2.1 hS (hl.1.trans hml.symm) d0 d3 d4 d6 d9 (fun x hx => (hex x hx).elim) hf hlo (by show 0 + 1 ≤ 1; omega) (by show 0 + 6 ≤ 6; omega) hlocks ?_ hS.2.2 (by omega) (by omega)
    intro t ht hsz hq
    exact ⟨rfl, hP.kept (fun k q hk => hq q.1 (hP k q hk).lt), Nat.le_trans hS.1 hsz, fun q h1 h2 => (hq q (Nat.lt_of_lt_of_le h1 hS.1)).trans (hS.2.1 q h1 h2)⟩
