/-! methods that throw: an exception is made and thrown; what the world is then -/
def Tz (E : Ev) (cc : ByteArray) (own : String) (fr lo : Nat) (X : String) (ws0 : va_W) (pw : va_W → Prop) (ω : Om) : Prop :=
  (∀ (wx : va_W) (lv : List (Nat × Value)) (st : List Value) (pc ik is ic j : Nat) (tx : String) (names : List String), Bundle.fit X = true → (∀ n ∈ names, Bundle.fit n = true) → Cond.classLink own ik X ∈ Tw → Cond.initialized X ∈ Tw → strL[j]? = some (own, is, tx) → (∀ w ∈ vx_atS own ic X names, w ∈ Tw ∨ w ∈ thL) → (∀ w ∈ Cond.classLink own ik X :: Cond.initialized X :: vx_atS own ic X names, vx_ot w = true) →
    decode cc pc = .ok (.new ik, 3) → decode cc (pc + 3) = .ok (.dup, 1) → decode cc (pc + 4) = .ok (.ldc is, 2) → decode cc (pc + 6) = .ok (.invokespecial ic, 3) → decode cc (pc + 9) = .ok (.athrow, 1) → names.length + 3 < fr → (st.map fun v => v.category).sum + (13 * (names.length + 1) + 43) ≤ lo → pw wx → wx.map Prod.fst = ws0.map Prod.fst → ω wx lv st pc) ∧
  (∀ (wx : va_W) (lv : List (Nat × Value)) (st : List Value) (pc ik is ic j : Nat) (tx : String) (names : List String), Bundle.fit X = true → (∀ n ∈ names, Bundle.fit n = true) → Cond.classLink own ik X ∈ Tw → Cond.initialized X ∈ Tw → strL[j]? = some (own, is, tx) → (∀ w ∈ vx_atS own ic X names, w ∈ Tw ∨ w ∈ thL) → (∀ w ∈ Cond.classLink own ik X :: Cond.initialized X :: vx_atS own ic X names, vx_ot w = true) →
    decode cc pc = .ok (.new ik, 3) → decode cc (pc + 3) = .ok (.dup, 1) → decode cc (pc + 4) = .ok (.ldc_w is, 3) → decode cc (pc + 7) = .ok (.invokespecial ic, 3) → decode cc (pc + 10) = .ok (.athrow, 1) → names.length + 3 < fr → (st.map fun v => v.category).sum + (13 * (names.length + 1) + 43) ≤ lo → pw wx → wx.map Prod.fst = ws0.map Prod.fst → ω wx lv st pc)
/-- a call of a method that throws X, out of this one too -/
def Tq (l : Launch) (E : Ev) (cc : ByteArray) (own : String) (fr lo : Nat) (X : String) (ws0 : va_W) (pw : va_W → Prop) (ω : Om) : Prop :=
  (∀ (wx : va_W) (pw9 : va_W → Prop) (lv : List (Nat × Value)) (st rest As : List Value) (pc index maxL fr' lo' : Nat) (y : MethodName) (bytes : ByteArray) (ret : Option FieldType) (wc : va_W) (is : List Nat), Th l E y bytes maxL ret fr' lo' As wc pw9 X → LkS y bytes maxL ret As.length → Cond.methodLink own index y ∈ Tw → decode cc pc = .ok (.invokestatic index, 3) → st = As.reverse ++ rest → is.map (fun i => wx[i]?) = wc.map some → va_nd is = true → (fr' + 1 ≤ fr ∧ 8 + (maxL + 11) + lo' ≤ lo) → (rest.map fun v => v.category).sum ≤ 8 → (∀ w : va_W, pw9 w → w.map Prod.fst = wc.map Prod.fst → pw (mrg wx is w) ∧ (mrg wx is w).map Prod.fst = ws0.map Prod.fst) → ω wx lv st pc) ∧
  (∀ (wx : va_W) (pw9 : va_W → Prop) (lv : List (Nat × Value)) (st rest As : List Value) (pc index maxL fr' lo' b ci N : Nat) (y : MethodName) (bytes : ByteArray) (ret : Option FieldType) (wc : va_W) (is : List Nat) (fs : List Value) (T : u_T), Th l E y bytes maxL ret fr' lo' (.ref b :: As) wc pw9 X → LkV y bytes maxL ret As.length → Cond.methodLink own index y ∈ Tw → vwCl[ci]? = some (y.cls, T, N) → decode cc pc = .ok (.invokevirtual index, 3) → st = As.reverse ++ .ref b :: rest → is.map (fun i => wx[i]?) = wc.map some → va_nd is = true → wc[0]? = some (b, .inr (ci, fs)) → (fr' + 1 ≤ fr ∧ 8 + (maxL + 11) + lo' ≤ lo) → (rest.map fun v => v.category).sum ≤ 8 → (∀ w : va_W, pw9 w → w.map Prod.fst = wc.map Prod.fst → pw (mrg wx is w) ∧ (mrg wx is w).map Prod.fst = ws0.map Prod.fst) → ω wx lv st pc)
section OUT
variable {p : Program} {l : Launch} {e : Env} {R : Room} {s : State} {m : MethodId} {args : Array Value} {below : List Frame} {meth : Method} {c : Code} {H : Heap} {locs : List Loc} {Q : State → Prop} {cells slots : Nat} {g : JFrame} {rest : List Value} {free : Addr → Prop}
theorem run_out {XC : String → State → State → Prop} (hr : vx_Run p l e R s m args below meth c H locs cells slots 1 6 g rest (fun _ _ _ => False) XC free)
    (kx : ∀ (q : Addr) (st₀ t T' : State) (L : List Loc) (X : String) (ce : Cell), st₀.heap = H → (∀ z ∈ L, free z.base) → T'.heap = t.heap → XC X st₀ t → t.heap[q]? = some ce → ce.vm = .none → s.vm.findClass X = some ce.cls → vx_W p l e R s m args below meth c T'.heap (locs ++ L) (cells + 1) (slots + 6) Q { g with stack := rest } q) : W p l e R s m args below meth c H locs cells slots Q g := by
  intro T hT X
  rcases hr T hT X with ⟨_, _, _, _, _, _, _, _, _, _, hq, _⟩ | ⟨q, st₀, t, T', L, E9, ce, h0, X', hL, e1, e2, hxc, hce, hcv, hcl, st9⟩
  · exact hq.elim
  · obtain ⟨t2, a1, b1⟩ := kx q st₀ t T' L E9 ce h0 hL e1 hxc hce hcv hcl T' rfl X'
    exact ⟨t2, st9.trans a1, b1⟩
end OUT
set_option maxHeartbeats 1000000 in
theorem th_of {l : Launch} {E : Ev} {y : MethodName} {cc : ByteArray} {maxL : Nat} {ret : Option FieldType} {fr lo : Nat} {av : List Value} {ws : va_W} {pw : va_W → Prop} {X : String} (hst : l.stackTraces = false) (hy : plainName y.cls = true) (hlen : (lg_sl av).length ≤ maxL) (body : ∀ ω : Om, Cw l E cc maxL y.cls fr lo 0 0 ω → Tz E cc y.cls fr lo X ws pw ω → Tq l E cc y.cls fr lo X ws pw ω → ω ws (lv_args 0 av) [] 0) : Th l E y cc maxL ret fr lo av ws pw X := by
  intro sz
  refine vx_ofW (cc := cc) (maxL := maxL) (ret := ret) hy rfl ?_
  intro p e s m args below meth c s₁ B hml hex hv
  obtain ⟨rfl, hsz, hP, hK, hD0, hG⟩ := hv
  have hts := atoms_spec (ws := .code y cc maxL ret :: Tw) B.pre
  have hown : s.vm.findClass y.cls = some m.cls := findClass_of_methodNamed B.named
  have hx := B.exec
  have hb := B.bytes
  have hlocks := B.notSynchronized
  subst hsz
  rw [lg_entry_eq]
  have hl := lv_entry av hlen
  refine body (fun ws lv st pc => ∀ (H : Heap) (locs : List Loc) (ls : Array Slot), va_P E.1 vwCl ws H → va_D _ ws → va_S _ s.heap H locs → lv_has ls maxL lv → W p l e _ s m _ below meth c H locs 0 0 _ (F0 m pc ls st)) ⟨p, e, _, s, m, _, below, meth, c, va_A ws s.heap.size, _, hx, hb, hml, hown, fun w h => hts w (List.mem_cons_of_mem _ h), hK, fun q h => Or.inr h, hG, rfl, rfl, Nat.zero_le _, Nat.zero_le _, rfl⟩ ⟨?_, ?_⟩ ⟨?_, ?_⟩ s.heap [] _ hP hD0.self va_S.rf hl
  · intro wx lv st pc ik is ic j tx names h1 h2 h3 h4 h5 h6 h7 d0 d3 d4 d6 d9 hf hlo hpw hfs H locs ls hP hD hS hl
    refine vx_throwS hx hb hst hown h1 h2 (hts _ (List.mem_cons_of_mem _ h3)) (hts _ (List.mem_cons_of_mem _ h4)) (hG.2.1 j _ h5) (fun w hw => (h6 w hw).elim (fun z => hts _ (List.mem_cons_of_mem _ z)) (fun z => va_Nw.use (thL_ot w z) (hG.2.2.2.2.2.2.2 w z))) h7 hG.2.2.1 hG.2.2.2.1 hS (hl.1.trans hml.symm) d0 d3 d4 d6 d9 (fun x hx => (hex x hx).elim) hf hlo (by show 0 + 1 ≤ 1; omega) (by show 0 + 6 ≤ 6; omega) hlocks ?_ hS.2.2 (by omega) (by omega)
    intro t ht hsz hq
    exact ⟨rfl, ⟨wx, hpw, hP.kept (fun k q hk => hq q.1 (hP k q hk).lt), hfs⟩, Nat.le_trans hS.1 hsz, fun q h1 h2 => (hq q (Nat.lt_of_lt_of_le h1 hS.1)).trans (hS.2.1 q h1 h2)⟩
  · intro wx lv st pc ik is ic j tx names h1 h2 h3 h4 h5 h6 h7 d0 d3 d4 d6 d9 hf hlo hpw hfs H locs ls hP hD hS hl
    refine vx_throwSW hx hb hst hown h1 h2 (hts _ (List.mem_cons_of_mem _ h3)) (hts _ (List.mem_cons_of_mem _ h4)) (hG.2.1 j _ h5) (fun w hw => (h6 w hw).elim (fun z => hts _ (List.mem_cons_of_mem _ z)) (fun z => va_Nw.use (thL_ot w z) (hG.2.2.2.2.2.2.2 w z))) h7 hG.2.2.1 hG.2.2.2.1 hS (hl.1.trans hml.symm) d0 d3 d4 d6 d9 (fun x hx => (hex x hx).elim) hf hlo (by show 0 + 1 ≤ 1; omega) (by show 0 + 6 ≤ 6; omega) hlocks ?_ hS.2.2 (by omega) (by omega)
    intro t ht hsz hq
    exact ⟨rfl, ⟨wx, hpw, hP.kept (fun k q hk => hq q.1 (hP k q hk).lt), hfs⟩, Nat.le_trans hS.1 hsz, fun q h1 h2 => (hq q (Nat.lt_of_lt_of_le h1 hS.1)).trans (hS.2.1 q h1 h2)⟩
  · intro wx pw9 lv st rest As pc index maxL fr' lo' y9 bytes ret9 wc is hM hk hlk hd hst9 hC hn hR hrm hpq H locs ls hP hD hS hl9
    obtain ⟨k1, k3, k4, k5⟩ := hk
    have hts9 : ∀ w ∈ Tw, w.before _ s = true := fun w h => hts w (List.mem_cons_of_mem _ h)
    have hA : ∀ q : Nat, s.heap.size ≤ q → va_A ws s.heap.size q := fun q h => Or.inr h
    have hF := va_free hD hS hA is hC
    refine run_out (vx_runS (As := As) (rest := rest) (index := index) ⟨hx, hb, hml, hown, hts9⟩ (hM H.size) ⟨cB As.length hts9 k3 k4 hlk k5 hR, hts9 _ k1⟩ ⟨Pr_blind, fun U hU hW => ⟨rfl, Pr_cut hK hG hA hP hD hS hC hn hU hW⟩⟩ rfl rfl hl9.1 hst9 (lv_room hrm) hd (by exact ⟨Nat.le_refl 1, Nat.le_refl 6⟩)) ?_
    intro q9 st₀ t T' L E9 ce h0 hL e1 hxc hce hcv hcl
    obtain ⟨rfl, ⟨w, hw9, hP1, hfst⟩, hz, hk9⟩ := hxc
    rw [h0] at hz hk9
    rw [← e1] at hz hk9 hP1
    have hP2 := mrg_P (w := w) hP hD hC hfst hP1 hk9
    obtain ⟨hpw, hfs⟩ := hpq w hw9 hfst
    refine vx_out (fun x hx => (hex x hx).elim) hlocks (by rw [e1]; exact hce) hcv hcl ?_ ?_ (by omega) (by omega)
    · intro t' ht' _
      refine ⟨rfl, ⟨_, hpw, by rw [ht']; exact hP2, hfs⟩, by rw [ht']; exact Nat.le_trans hS.1 hz, fun q h1 h2 => by rw [ht', hk9 q (Nat.lt_of_lt_of_le h1 hS.1) (fun z => h2 (hF q z))]; exact hS.2.1 q h1 h2⟩
    · intro q hq
      rcases List.mem_append.mp hq with h | h
      · exact hS.2.2 q h
      · exact hF _ (hL q h)
  · intro wx pw9 lv st rest As pc index maxL fr' lo' b ci N y9 bytes ret9 wc is fs T9 hM hk hlk hc hd hst9 hC hn hr hR hrm hpq H locs ls hP hD hS hl9
    obtain ⟨k1, k2, k3, k4, k5⟩ := hk
    have hPc : va_P E.1 vwCl wc H := fun k q hq => by obtain ⟨i, -, h2⟩ := cut_at hC hq; exact hP i q h2
    have hts9 : ∀ w ∈ Tw, w.before _ s = true := fun w h => hts w (List.mem_cons_of_mem _ h)
    have hA : ∀ q : Nat, s.heap.size ≤ q → va_A ws s.heap.size q := fun q h => Or.inr h
    have hF := va_free hD hS hA is hC
    refine run_out (vx_runV (As := As) (rest := rest) (b := b) (C := y9.cls) (index := index) ⟨hx, hb, hml, hown, hts9⟩ (hM H.size) ⟨cB As.length hts9 k3 k4 hlk k5 hR, hts9 _ k1, hts9 _ k2⟩ ⟨Pr_blind, va_recv (tys := tyE E) hK hPc hc hr, fun U hU hW => ⟨rfl, Pr_cut hK hG hA hP hD hS hC hn hU hW⟩⟩ rfl rfl hl9.1 hst9 (lv_room hrm) hd (by exact ⟨Nat.le_refl 1, Nat.le_refl 6⟩)) ?_
    intro q9 st₀ t T' L E9 ce h0 hL e1 hxc hce hcv hcl
    obtain ⟨rfl, ⟨w, hw9, hP1, hfst⟩, hz, hk9⟩ := hxc
    rw [h0] at hz hk9
    rw [← e1] at hz hk9 hP1
    have hP2 := mrg_P (w := w) hP hD hC hfst hP1 hk9
    obtain ⟨hpw, hfs⟩ := hpq w hw9 hfst
    refine vx_out (fun x hx => (hex x hx).elim) hlocks (by rw [e1]; exact hce) hcv hcl ?_ ?_ (by omega) (by omega)
    · intro t' ht' _
      refine ⟨rfl, ⟨_, hpw, by rw [ht']; exact hP2, hfs⟩, by rw [ht']; exact Nat.le_trans hS.1 hz, fun q h1 h2 => by rw [ht', hk9 q (Nat.lt_of_lt_of_le h1 hS.1) (fun z => h2 (hF q z))]; exact hS.2.1 q h1 h2⟩
    · intro q hq
      rcases List.mem_append.mp hq with h | h
      · exact hS.2.2 q h
      · exact hF _ (hL q h)
