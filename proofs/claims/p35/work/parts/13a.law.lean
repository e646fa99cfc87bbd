/-! methods with handlers, that make at most one cell of six slots and return -/
def Nc3 (U : State) : Prop := va_Nc "java/lang/IllegalArgumentException" "java/lang/IndexOutOfBoundsException" U ∧ va_Nc "java/lang/IllegalStateException" "java/lang/IllegalArgumentException" U ∧ va_Nc "java/lang/IllegalStateException" "java/lang/IndexOutOfBoundsException" U
theorem Nc3.moved {u U : State} (hvm : u.vm.Alike U.vm) (h : Nc3 u) : Nc3 U := ⟨va_Nc.moved hvm h.1, va_Nc.moved hvm h.2.1, va_Nc.moved hvm h.2.2⟩
def PrX (E : Ev) (ws : va_W) (sz : Nat) (U : State) : Prop := Pr E ws sz U ∧ Nc3 U
theorem PrX_blind {E : Ev} {ws : va_W} {sz : Nat} {av : List Value} : FrameBlind (va_Pc av (PrX E ws sz)) := by
  intro a U g mk h
  obtain ⟨h0, h1, h2⟩ := h
  have h3 := Pr_blind (E := E) (ws := ws) (sz := sz) (av := av) a U g mk ⟨h0, h1⟩
  exact ⟨h3.1, h3.2, Nc3.moved (u := U) (U := U.calling g mk a) (Vm.Alike.refl U.vm) h2⟩
def CtX (l : Launch) (E : Ev) (y : MethodName) (cc : ByteArray) (maxL : Nat) (ret : Option FieldType) (hh : List (Nat × Nat × Nat × Nat)) (fr lo : Nat) (av : List Value) (ws : va_W) (post : Option Value → va_W → Prop) : Prop := ∀ sz : Nat, Met l y (.codeWith y cc maxL ret hh :: Tw) ({ frames := fr, cells := 1, slots := 6, locals := lo }) (va_Pc av (PrX E ws sz)) (Po E ws sz post) 1 6 (va_A ws sz)
def NcOf (X nm : String) : Prop := ∀ U : State, Nc3 U → va_Nc X nm U
/-- a call of a method that throws, caught here: what ω asks, ω' of one cell more grants at the handler -/
def Tc (l : Launch) (E : Ev) (cc : ByteArray) (own : String) (hh : List (Nat × Nat × Nat × Nat)) (fr lo : Nat) (ω ω' : Om) : Prop :=
  ∀ (X : String) (preH : List (Nat × Nat × Nat × Nat)) (xh : Nat × Nat × Nat × Nat) (sufH : List (Nat × Nat × Nat × Nat)), hh = preH ++ xh :: sufH → (∀ z ∈ preH, z.2.2.2 ≠ 0 ∧ ∃ nm : String, Cond.classLink own z.2.2.2 nm ∈ Tw ∧ NcOf X nm) → xh.2.2.2 ≠ 0 → Cond.classLink own xh.2.2.2 X ∈ Tw → Cond.castable X X ∈ thL →
  ∀ (wx : va_W) (pw9 : va_W → Prop) (lv : List (Nat × Value)) (st rest As : List Value) (pc index maxL fr' lo' b ci N : Nat) (y : MethodName) (bytes : ByteArray) (ret : Option FieldType) (wc : va_W) (is : List Nat) (fs : List Value) (T : u_T), Th l E y bytes maxL ret fr' lo' (.ref b :: As) wc pw9 X → LkV y bytes maxL ret As.length → Cond.methodLink own index y ∈ Tw → vwCl[ci]? = some (y.cls, T, N) → decode cc pc = .ok (.invokevirtual index, 3) → st = As.reverse ++ .ref b :: rest → is.map (fun i => wx[i]?) = wc.map some → va_nd is = true → wc[0]? = some (b, .inr (ci, fs)) → (fr' + 1 ≤ fr ∧ 8 + (maxL + 11) + lo' ≤ lo) → (rest.map fun v => v.category).sum ≤ 8 → (xh.1 ≤ pc ∧ pc < xh.2.1) →
  (∀ (w : va_W) (q : Nat), pw9 w → w.map Prod.fst = wc.map Prod.fst → ω' (mrg wx is w) lv [.ref q] xh.2.2.1) → ω wx lv st pc
def omL (p : Program) (l : Launch) (e : Env) (R : Room) (s : State) (m : MethodId) (args : Array Value) (below : List Frame) (meth : Method) (c : Code) (E : Ev) (nL : Nat) (A : Nat → Prop) (Q : State → Prop) (k n : Nat) : Om := fun ws lv st pc => ∀ (H : Heap) (locs : List Loc) (ls : Array Slot), va_P E.1 vwCl ws H → va_D A ws → va_S A s.heap H locs → lv_has ls nL lv → W p l e R s m args below meth c H locs k n Q (F0 m pc ls st)
set_option maxHeartbeats 1000000 in
theorem ctx_of {l : Launch} {E : Ev} {y : MethodName} {cc : ByteArray} {maxL : Nat} {ret : Option FieldType} {hh : List (Nat × Nat × Nat × Nat)} {fr lo : Nat} {av : List Value} {ws : va_W} {post : Option Value → va_W → Prop} (hy : plainName y.cls = true) (hlen : (lg_sl av).length ≤ maxL) (body : ∀ ω ω' : Om, Cw l E cc maxL y.cls fr lo 0 0 ω → Cw l E cc maxL y.cls fr lo 1 6 ω' → Rt cc ret ws post ω' → (∀ (ws : va_W) (lv : List (Nat × Value)) (st : List Value) (pc : Nat), ω' ws lv st pc → ω ws lv st pc) → Tc l E cc y.cls hh fr lo ω ω' → ω ws (lv_args 0 av) [] 0) : CtX l E y cc maxL ret hh fr lo av ws post := by
  intro sz
  refine va_MetW (cc := cc) (maxL := maxL) (ret := ret) (hh := hh) hy rfl ?_
  intro p e s m args below meth c s₁ B hml hv
  obtain ⟨rfl, ⟨hsz, hP, hK, hD0, hG⟩, hN⟩ := hv
  have hts := atoms_spec (ws := .codeWith y cc maxL ret hh :: Tw) B.pre
  have hown : s.vm.findClass y.cls = some m.cls := findClass_of_methodNamed B.named
  have hx := B.exec
  have hb := B.bytes
  have hr := B.returns
  have hlocks := B.notSynchronized
  have htb : c.exceptionTable.toList = tableOf hh := vx_table (x := y) B (hts _ List.mem_cons_self)
  subst hsz
  rw [lg_entry_eq]
  have hl := lv_entry av hlen
  have hts9 : ∀ w ∈ Tw, w.before av.toArray s = true := fun w h => hts w (List.mem_cons_of_mem _ h)
  have c0 : Cw l E cc maxL y.cls fr lo 0 0 (omL p l e ({ frames := fr, cells := 1, slots := 6, locals := lo }) s m av.toArray below meth c E maxL (va_A ws s.heap.size) (MQ below (Po E ws s.heap.size post) av.toArray s 1 6 (va_A ws s.heap.size)) 0 0) := ⟨p, e, _, s, m, _, below, meth, c, va_A ws s.heap.size, _, hx, hb, hml, hown, hts9, hK, fun q h => Or.inr h, hG, rfl, rfl, Nat.zero_le _, Nat.zero_le _, rfl⟩
  have c1 : Cw l E cc maxL y.cls fr lo 1 6 (omL p l e ({ frames := fr, cells := 1, slots := 6, locals := lo }) s m av.toArray below meth c E maxL (va_A ws s.heap.size) (MQ below (Po E ws s.heap.size post) av.toArray s 1 6 (va_A ws s.heap.size)) 1 6) := ⟨p, e, ({ frames := fr, cells := 1, slots := 6, locals := lo }), s, m, _, below, meth, c, va_A ws s.heap.size, _, hx, hb, hml, hown, hts9, hK, fun q h => Or.inr h, hG, rfl, rfl, Nat.le_refl 1, Nat.le_refl 6, rfl⟩
  refine body _ _ c0 c1 ⟨?_, ?_, ?_, ?_⟩ ?_ ?_ s.heap [] _ hP hD0.self va_S.rf hl
  · intro w lv pc v ty hd hret hn hp ha H locs ls hP hD hS hl
    exact W.zret hx hb (hr.trans hret) hn (fun t ht hW => ⟨⟨_, w, rfl, hp, by rw [ht]; exact hP, ha⟩, hS.F ht⟩) hS.2.2 hd hlocks
  · intro w lv pc v hd hret hp ha H locs ls hP hD hS hl
    exact W.lret hx hb (hr.trans hret) (fun t ht hW => ⟨⟨_, w, rfl, hp, by rw [ht]; exact hP, ha⟩, hS.F ht⟩) hS.2.2 hd hlocks
  · intro w lv pc hd hret hp ha H locs ls hP hD hS hl
    exact W.vret hx hb (hr.trans hret) (fun t ht hW => ⟨⟨_, w, rfl, hp, by rw [ht]; exact hP, ha⟩, hS.F ht⟩) hS.2.2 hd hlocks
  · intro w lv pc a n hd hret hp ha H locs ls hP hD hS hl
    exact W.aret hx hb (hr.trans hret) (Or.inl ⟨n, rfl⟩) (Or.inr ⟨a, rfl⟩) (fun t ht hW => ⟨⟨_, w, rfl, hp, by rw [ht]; exact hP, ha⟩, hS.F ht⟩) hS.2.2 hd hlocks
  · intro ws lv st pc h H locs ls hP hD hS hl
    exact W.widen (Nat.zero_le _) (Nat.zero_le _) (h H locs ls hP hD hS hl)
  · intro X preH xh sufH hsplit hpre h0 hlink hcast wx pw9 lv st rest As pc index maxL' fr' lo' b ci N y9 bytes ret9 wc is fs T9 hM hk hlk hc hd hst9 hC hn hr9 hR hrm hcov kk H locs ls hP hD hS hl9
    obtain ⟨k1, k2, k3, k4, k5⟩ := hk
    have hPc : va_P E.1 vwCl wc H := fun k q hq => by obtain ⟨i, -, h2⟩ := cut_at hC hq; exact hP i q h2
    have hA : ∀ q : Nat, s.heap.size ≤ q → va_A ws s.heap.size q := fun q h => Or.inr h
    have hF := va_free hD hS hA is hC
    refine run_out (vx_runV (As := As) (rest := rest) (b := b) (C := y9.cls) (index := index) ⟨hx, hb, hml, hown, hts9⟩ (hM H.size) ⟨cB As.length hts9 k3 k4 hlk k5 hR, hts9 _ k1, hts9 _ k2⟩ ⟨Pr_blind, va_recv (tys := tyE E) hK hPc hc hr9, fun U hU hW => ⟨rfl, Pr_cut hK hG hA hP hD hS hC hn hU hW⟩⟩ rfl rfl hl9.1 hst9 (lv_room hrm) hd (by exact ⟨Nat.le_refl 1, Nat.le_refl 6⟩)) ?_
    intro q9 st₀ t T' L E9 ce h0' hL e1 hxc hce hcv hcl
    obtain ⟨rfl, ⟨w, hw9, hP1, hfst⟩, hz, hk9⟩ := hxc
    rw [h0'] at hz hk9
    rw [← e1] at hz hk9 hP1
    have hP2 := mrg_P (w := w) hP hD hC hfst hP1 hk9
    refine vx_catch hown (tableOf preH) ⟨xh.1, xh.2.1, xh.2.2.1, xh.2.2.2⟩ (tableOf sufH) (by rw [htb, hsplit]; simp [tableOf]) ?_ (by show (decide (xh.1 ≤ pc) && decide (pc < xh.2.1)) = true; rw [decide_eq_true hcov.1, decide_eq_true hcov.2]; rfl) h0 (hts9 _ hlink) (va_Nw.use (thL_ot _ hcast) (hG.2.2.2.2.2.2.2 _ hcast)) (by rw [e1]; exact hce) hcv hcl ?_
    · intro z hz9
      obtain ⟨z9, hz1, rfl⟩ := List.mem_map.mp hz9
      obtain ⟨a1, nm, a2, a3⟩ := hpre z9 hz1
      exact Or.inr ⟨a1, nm, hts9 _ a2, a3 s hN⟩
    · refine kk w q9 hw9 hfst T'.heap (locs ++ L) ls hP2 (mrg_D hD hC hfst) ⟨Nat.le_trans hS.1 hz, fun q h1 h2 => by rw [hk9 q (Nat.lt_of_lt_of_le h1 hS.1) (fun z => h2 (hF q z))]; exact hS.2.1 q h1 h2, fun q hq => ?_⟩ hl9
      rcases List.mem_append.mp hq with h | h
      · exact hS.2.2 q h
      · exact hF _ (hL q h)
/-! the callee's world behind one cell of the caller's -/
theorem cutP : ∀ (pre wc : va_W), (List.range' pre.length wc.length).map (fun i => (pre ++ wc)[i]?) = wc.map some
  | pre, [] => rfl
  | pre, c :: wc => by
    have h := cutP (pre ++ [c]) wc
    rw [List.append_assoc, List.length_append] at h
    rw [List.length_cons, List.range'_succ, List.map_cons, List.map_cons]
    refine congr (congrArg _ ?_) h
    rw [List.getElem?_append_right (Nat.le_refl _), Nat.sub_self]
    rfl
theorem cut1 (x : Nat × va_E) (wc : va_W) : (List.range' 1 wc.length).map (fun i => (x :: wc)[i]?) = wc.map some := cutP [x] wc
theorem ndR : ∀ (n s : Nat), va_nd (List.range' s n) = true
  | 0, _ => rfl
  | n + 1, s => by
    rw [List.range'_succ, va_nd, ndR n (s + 1), Bool.and_true, decide_eq_true_eq]
    intro h
    have := (List.mem_range'_1.mp h).1
    omega
theorem mrgP : ∀ (wc pre w : va_W), w.length = wc.length → mrg (pre ++ wc) (List.range' pre.length wc.length) w = pre ++ w
  | [], pre, [], _ => rfl
  | [], _, _ :: _, h => by cases h
  | _ :: _, _, [], h => by cases h
  | c :: wc, pre, q :: w, h => by
    have h2 := mrgP wc (pre ++ [q]) w (by simpa using h)
    rw [List.append_assoc, List.length_append, List.append_assoc] at h2
    rw [List.length_cons, List.range'_succ, mrg]
    have e : (pre ++ c :: wc).set pre.length q = pre ++ ([q] ++ wc) := by
      rw [List.set_append_right _ _ (Nat.le_refl _), Nat.sub_self]
      rfl
    rw [e]
    exact h2
theorem mrg1 (x : Nat × va_E) {wc w : va_W} (h : w.map Prod.fst = wc.map Prod.fst) : mrg (x :: wc) (List.range' 1 wc.length) w = x :: w := mrgP wc [x] w (len_fst h)
theorem nc_AB : NcOf "java/lang/IllegalArgumentException" "java/lang/IndexOutOfBoundsException" := fun _ h => h.1
theorem nc_SA : NcOf "java/lang/IllegalStateException" "java/lang/IllegalArgumentException" := fun _ h => h.2.1
theorem nc_SB : NcOf "java/lang/IllegalStateException" "java/lang/IndexOutOfBoundsException" := fun _ h => h.2.2
theorem cs_A : Cond.castable "java/lang/IllegalArgumentException" "java/lang/IllegalArgumentException" ∈ thL := List.mem_of_getElem? (i := 7) rfl
theorem cs_S : Cond.castable "java/lang/IllegalStateException" "java/lang/IllegalStateException" ∈ thL := List.mem_of_getElem? (i := 8) rfl
theorem cs_B : Cond.castable "java/lang/IndexOutOfBoundsException" "java/lang/IndexOutOfBoundsException" ∈ thL := List.mem_of_getElem? (i := 0) rfl
/-! methods of the law's own, that make at most k cells of six slots each -/
def cwd (y : MethodName) (cc : ByteArray) (maxL : Nat) (ret : Option FieldType) : Option (List (Nat × Nat × Nat × Nat)) → Cond
  | none => .code y cc maxL ret
  | some hh => .codeWith y cc maxL ret hh
def CtN (l : Launch) (E : Ev) (y : MethodName) (cc : ByteArray) (maxL : Nat) (ret : Option FieldType) (ho : Option (List (Nat × Nat × Nat × Nat))) (fr lo k : Nat) (av : List Value) (ws : va_W) (post : Option Value → va_W → Prop) : Prop := ∀ sz : Nat, Met l y (cwd y cc maxL ret ho :: Tw) ({ frames := fr, cells := k, slots := 6 * k, locals := lo }) (va_Pc av (PrX E ws sz)) (Po E ws sz post) k (6 * k) (va_A ws sz)
def LkN (y : MethodName) (bytes : ByteArray) (maxL : Nat) (ret : Option FieldType) (ho : Option (List (Nat × Nat × Nat × Nat))) (n : Nat) : Prop := Cond.static y ∈ Tw ∧ cwd y bytes maxL ret ho ∈ Tw ∧ Cond.initialized y.cls ∈ Tw ∧ (y.cls ≠ "java/lang/invoke/MethodHandle" ∧ y.cls ≠ "java/lang/invoke/VarHandle" ∧ (parseMethodDescriptor y.desc).map (fun d => d.parameters.length) = some n)
theorem ctn_of_ctx {l : Launch} {E : Ev} {y : MethodName} {cc : ByteArray} {maxL : Nat} {ret : Option FieldType} {hh : List (Nat × Nat × Nat × Nat)} {fr lo : Nat} {av : List Value} {ws : va_W} {post : Option Value → va_W → Prop} (h : CtX l E y cc maxL ret hh fr lo av ws post) : CtN l E y cc maxL ret (some hh) fr lo 1 av ws post := h
/-- the rule of a call of such a method -/
def Ca (l : Launch) (E : Ev) (cc : ByteArray) (own : String) (fr lo k : Nat) (Ω : Nat → Om) : Prop :=
  ∀ (j k' : Nat) (pre wc suf : va_W) (lv : List (Nat × Value)) (st rest As : List Value) (pc index maxL fr' lo' : Nat) (y : MethodName) (bytes : ByteArray) (ret : Option FieldType) (ho : Option (List (Nat × Nat × Nat × Nat))) (post : Option Value → va_W → Prop), j + k' ≤ k → CtN l E y bytes maxL ret ho fr' lo' k' As wc post → LkN y bytes maxL ret ho As.length → Cond.methodLink own index y ∈ Tw → decode cc pc = .ok (.invokestatic index, 3) → st = As.reverse ++ rest → (fr' + 1 ≤ fr ∧ 8 + (maxL + 11) + lo' ≤ lo) → (rest.map fun v => v.category).sum ≤ 8 → (∀ (v : Option Value) (w : va_W), post v w → Ω (j + k') (pre ++ (w ++ suf)) lv (v.toList ++ rest) (pc + 3)) → Ω j (pre ++ (wc ++ suf)) lv st pc
def Bd (l : Launch) (E : Ev) (y : MethodName) (cc : ByteArray) (maxL : Nat) (ret : Option FieldType) (fr lo k : Nat) (ws : va_W) (post : Option Value → va_W → Prop) (Ω : Nat → Om) : Prop :=
  (∀ j : Nat, j ≤ k → Cw l E cc maxL y.cls fr lo j (6 * j) (Ω j)) ∧
  (∀ (j i : Nat) (ws : va_W) (lv : List (Nat × Value)) (st : List Value) (pc : Nat), j ≤ i → Ω i ws lv st pc → Ω j ws lv st pc) ∧
  (∀ j : Nat, j ≤ k → Rt cc ret ws post (Ω j)) ∧ Ca l E cc y.cls fr lo k Ω
theorem cutM : ∀ (pre wc suf : va_W), (List.range' pre.length wc.length).map (fun i => (pre ++ (wc ++ suf))[i]?) = wc.map some
  | pre, [], suf => rfl
  | pre, c :: wc, suf => by
    have h := cutM (pre ++ [c]) wc suf
    rw [List.append_assoc, List.length_append] at h
    rw [List.length_cons, List.range'_succ, List.map_cons, List.map_cons]
    refine congr (congrArg _ ?_) h
    rw [List.getElem?_append_right (Nat.le_refl _), Nat.sub_self]
    rfl
theorem mrgM : ∀ (wc pre suf w : va_W), w.length = wc.length → mrg (pre ++ (wc ++ suf)) (List.range' pre.length wc.length) w = pre ++ (w ++ suf)
  | [], pre, suf, [], _ => rfl
  | [], _, _, _ :: _, h => by cases h
  | _ :: _, _, _, [], h => by cases h
  | c :: wc, pre, suf, q :: w, h => by
    have h2 := mrgM wc (pre ++ [q]) suf w (by simpa using h)
    rw [List.append_assoc, List.length_append, List.append_assoc] at h2
    rw [List.length_cons, List.range'_succ, mrg]
    have e : (pre ++ (c :: wc ++ suf)).set pre.length q = pre ++ ([q] ++ (wc ++ suf)) := by
      rw [List.set_append_right _ _ (Nat.le_refl _), Nat.sub_self]
      rfl
    rw [e]
    exact h2
section START
variable {p : Program} {l : Launch} {e : Env} {R : Room} {s : State} {m : MethodId} {args : Array Value} {below : List Frame} {meth : Method} {c : Code} {E : Ev} {Q : State → Prop}
theorem run_mk {A : Nat → Prop} {H : Heap} {locs : List Loc} {kc ks mc' ms' pc : Nat} {ls : Array Slot} {st0 rest : List Value} {ws wc : va_W} {is : List Nat} {post : Option Value → va_W → Prop} {a : Array Value} (hP : va_P E.1 vwCl ws H) (hD : va_D A ws) (hS : va_S A s.heap H locs) (hA : ∀ q : Nat, s.heap.size ≤ q → A q) (hC : is.map (fun i => ws[i]?) = wc.map some)
    (hr : va_Run p l e R s m args below meth c H locs kc ks mc' ms' (F0 m pc ls st0) rest (Po E wc H.size post a) (va_A wc H.size))
    (kk : ∀ (v : Option Value) (w : va_W) (H1 : Heap) (locs1 : List Loc), post v w → va_P E.1 vwCl (mrg ws is w) H1 → va_D A (mrg ws is w) → va_S A s.heap H1 locs1 → W p l e R s m args below meth c H1 locs1 (kc + mc') (ks + ms') Q (F0 m (pc + 3) ls (v.toList ++ rest))) : W p l e R s m args below meth c H locs kc ks Q (F0 m pc ls st0) := by
  have hF := va_free hD hS hA is hC
  intro T hT X
  obtain ⟨v, st₀, t, T', L, h0, X', hL, e1, e2, ⟨⟨v', w, hv, hp, hP1, hfst⟩, hz, hk⟩, st⟩ := hr T hT X
  cases hv
  rw [h0] at hz hk
  rw [← e1] at hz hk hP1
  obtain ⟨t2, a1, b1⟩ := kk v w T'.heap (locs ++ L) hp (mrg_P hP hD hC hfst hP1 hk) (mrg_D hD hC hfst)
    ⟨Nat.le_trans hS.1 hz, fun q h1 h2 => by rw [hk q (Nat.lt_of_lt_of_le h1 hS.1) (fun z => h2 (hF q z))]; exact hS.2.1 q h1 h2, fun q hq => by
      rcases List.mem_append.mp hq with h | h
      · exact hS.2.2 q h
      · exact hF _ (hL q h)⟩ T' rfl X'
  exact ⟨t2, st t2 a1, b1⟩
end START
section BODY
variable {p : Program} {l : Launch} {e : Env} {R : Room} {s : State} {m : MethodId} {args : Array Value} {below : List Frame} {meth : Method} {c : Code} {E : Ev} {nL : Nat} {own : String} {A : Nat → Prop} {Q : State → Prop} {cc : ByteArray}
theorem ca_of (hx : p.tables.exec = Jvm.exec) (hb : c.code = cc) (hml : c.maxLocals = nL) (hown : s.vm.findClass own = some m.cls) (ht : ∀ w ∈ Tw, w.before args s = true) (hK : va_K E.1 vwCl (tyE E) s) (hA : ∀ q : Nat, s.heap.size ≤ q → A q) (hG : Gw E A s s.heap) (hN : Nc3 s) {k c0 s0 : Nat} (hk0 : c0 + k ≤ R.cells) (hs0 : s0 + 6 * k ≤ R.slots) : Ca l E cc own R.frames R.locals k (fun j => omL p l e R s m args below meth c E nL A Q (c0 + j) (s0 + 6 * j)) := by
  intro j k' pre wc suf lv st rest As pc index maxL fr' lo' y bytes ret ho post hj hM hk hlk hd hst hR hrm kk H locs ls hP hD hS hl9
  obtain ⟨k1, k2, k3, k4⟩ := hk
  have hC := cutM pre wc suf
  have hn := ndR wc.length pre.length
  have hroom : c0 + j + k' ≤ R.cells ∧ s0 + 6 * j + 6 * k' ≤ R.slots := ⟨by omega, by omega⟩
  have go : ∀ (hr : va_Run p l e R s m args below meth c H locs (c0 + j) (s0 + 6 * j) k' (6 * k') (F0 m pc ls st) rest (Po E wc H.size post As.toArray) (va_A wc H.size)), W p l e R s m args below meth c H locs (c0 + j) (s0 + 6 * j) Q (F0 m pc ls st) := by
    intro hr
    refine run_mk (mc' := k') (ms' := 6 * k') (rest := rest) (a := As.toArray) (post := fun v w => post v w ∧ w.map Prod.fst = wc.map Prod.fst) hP hD hS hA hC ?_ ?_
    · intro T hT X
      obtain ⟨v, st₀, t, T', L, h0, X', hL, e1, e2, ⟨⟨v', w, hv, hp, hP1, hfst⟩, hF⟩, stp⟩ := hr T hT X
      exact ⟨v, st₀, t, T', L, h0, X', hL, e1, e2, ⟨⟨v', w, hv, ⟨hp, hfst⟩, hP1, hfst⟩, hF⟩, stp⟩
    · intro v w H1 locs1 hp hP1 hD1 hS1
      have h9 := kk v w hp.1
      rw [mrgM wc pre suf w (len_fst hp.2)] at hP1 hD1
      have e1 : c0 + j + k' = c0 + (j + k') := by omega
      have e2 : s0 + 6 * j + 6 * k' = s0 + 6 * (j + k') := by omega
      rw [e1, e2]
      exact h9 H1 locs1 ls hP1 hD1 hS1 hl9
  have hlen : ∀ sig, parseMethodDescriptor y.desc = some sig → As.length = sig.parameters.length := fun sig h => by
    have h2 := k4.2.2
    rw [h] at h2
    exact (Option.some.inj h2).symm
  cases ho with
  | none => exact go (va_runS (As := As) (rest := rest) (index := index) ⟨hx, hb, hml, hown, ht⟩ (hM H.size) ⟨cB As.length ht k2 k3 hlk k4 hR, ht _ k1⟩ ⟨PrX_blind, fun U hU hW => ⟨rfl, Pr_cut hK hG hA hP hD hS hC hn hU hW, Nc3.moved hW.alike hN⟩⟩ rfl rfl hl9.1 hst (lv_room hrm) hd hroom)
  | some hh => exact go (vx_runSW (As := As) (rest := rest) (index := index) (hh := hh) ⟨hx, hb, hml, hown, ht⟩ (hM H.size) ⟨⟨rfl, rfl, hR.1, hR.2, pay_in ht (gdT k2), List.mem_cons_self⟩, ht _ k2, ht _ k3, ⟨k4.1, k4.2.1⟩, hlen, ht _ hlk, ht _ k1⟩ ⟨PrX_blind, fun U hU hW => ⟨rfl, Pr_cut hK hG hA hP hD hS hC hn hU hW, Nc3.moved hW.alike hN⟩⟩ rfl rfl hl9.1 hst (lv_room hrm) hd hroom)
end BODY
set_option maxHeartbeats 1000000 in
theorem ctn_of {l : Launch} {E : Ev} {y : MethodName} {cc : ByteArray} {maxL : Nat} {ret : Option FieldType} {ho : Option (List (Nat × Nat × Nat × Nat))} {fr lo k : Nat} {av : List Value} {ws : va_W} {post : Option Value → va_W → Prop} (hy : plainName y.cls = true) (hlen : (lg_sl av).length ≤ maxL) (body : ∀ Ω : Nat → Om, Bd l E y cc maxL ret fr lo k ws post Ω → Ω 0 ws (lv_args 0 av) [] 0) : CtN l E y cc maxL ret ho fr lo k av ws post := by
  intro sz
  have main : ∀ (p : Program) (e : Env) (s : State) (m : MethodId) (below : List Frame) (meth : Method) (c : Code), p.tables.exec = Jvm.exec → c.code = cc → meth.sig.returnType = ret → c.maxLocals = maxL → s.vm.findClass y.cls = some m.cls → (∀ w ∈ Tw, w.before av.toArray s = true) → meth.locks = false → PrX E ws sz s → W p l e ({ frames := fr, cells := k, slots := 6 * k, locals := lo }) s m av.toArray below meth c s.heap [] 0 0 (MQ below (Po E ws sz post) av.toArray s k (6 * k) (va_A ws sz)) (entryFrame m av.toArray maxL) := by
    intro p e s m below meth c hx hb hr hml hown hts9 hlocks hv
    obtain ⟨⟨hsz, hP, hK, hD0, hG⟩, hN⟩ := hv
    subst hsz
    rw [lg_entry_eq]
    have hl := lv_entry av hlen
    refine body (fun j => omL p l e ({ frames := fr, cells := k, slots := 6 * k, locals := lo }) s m av.toArray below meth c E maxL (va_A ws s.heap.size) (MQ below (Po E ws s.heap.size post) av.toArray s k (6 * k) (va_A ws s.heap.size)) (0 + j) (0 + 6 * j)) ⟨?_, ?_, ?_, ca_of (R := { frames := fr, cells := k, slots := 6 * k, locals := lo }) hx hb hml hown hts9 hK (fun q h => Or.inr h) hG hN (by show 0 + k ≤ k; omega) (by show 0 + 6 * k ≤ 6 * k; omega)⟩ s.heap [] _ hP hD0.self va_S.rf hl
    · intro j hj
      exact ⟨p, e, ({ frames := fr, cells := k, slots := 6 * k, locals := lo }), s, m, _, below, meth, c, va_A ws s.heap.size, _, hx, hb, hml, hown, hts9, hK, fun q h => Or.inr h, hG, rfl, rfl, by show j ≤ k; exact hj, by show 6 * j ≤ 6 * k; omega, by simp only [Nat.zero_add]; rfl⟩
    · intro j i ws lv st pc hji h H locs ls hP hD hS hl
      exact W.widen (by omega) (by omega) (h H locs ls hP hD hS hl)
    · intro j hj
      refine ⟨?_, ?_, ?_, ?_⟩
      · intro w lv pc v ty hd hret hn hp ha H locs ls hP hD hS hl
        exact W.widen (by omega) (by omega) (W.zret hx hb (hr.trans hret) hn (fun t ht hW => ⟨⟨_, w, rfl, hp, by rw [ht]; exact hP, ha⟩, hS.F ht⟩) hS.2.2 hd hlocks)
      · intro w lv pc v hd hret hp ha H locs ls hP hD hS hl
        exact W.widen (by omega) (by omega) (W.lret hx hb (hr.trans hret) (fun t ht hW => ⟨⟨_, w, rfl, hp, by rw [ht]; exact hP, ha⟩, hS.F ht⟩) hS.2.2 hd hlocks)
      · intro w lv pc hd hret hp ha H locs ls hP hD hS hl
        exact W.widen (by omega) (by omega) (W.vret hx hb (hr.trans hret) (fun t ht hW => ⟨⟨_, w, rfl, hp, by rw [ht]; exact hP, ha⟩, hS.F ht⟩) hS.2.2 hd hlocks)
      · intro w lv pc a n hd hret hp ha H locs ls hP hD hS hl
        exact W.widen (by omega) (by omega) (W.aret hx hb (hr.trans hret) (Or.inl ⟨n, rfl⟩) (Or.inr ⟨a, rfl⟩) (fun t ht hW => ⟨⟨_, w, rfl, hp, by rw [ht]; exact hP, ha⟩, hS.F ht⟩) hS.2.2 hd hlocks)
  cases ho with
  | none =>
    refine Met.ofW (cc := cc) (maxL := maxL) (ret := ret) hy rfl ?_
    intro p e s m args below meth c s₁ B hml hv
    obtain ⟨rfl, hv⟩ := hv
    have hts := atoms_spec (ws := .code y cc maxL ret :: Tw) B.pre
    exact main p e s m below meth c B.exec B.bytes B.returns hml (findClass_of_methodNamed B.named) (fun w h => hts w (List.mem_cons_of_mem _ h)) B.notSynchronized hv
  | some hh =>
    refine va_MetW (cc := cc) (maxL := maxL) (ret := ret) (hh := hh) hy rfl ?_
    intro p e s m args below meth c s₁ B hml hv
    obtain ⟨rfl, hv⟩ := hv
    have hts := atoms_spec (ws := .codeWith y cc maxL ret hh :: Tw) B.pre
    exact main p e s m below meth c B.exec B.bytes B.returns hml (findClass_of_methodNamed B.named) (fun w h => hts w (List.mem_cons_of_mem _ h)) B.notSynchronized hv
/-- what such a method answers may be told otherwise; its room may be wider -/
theorem CtN.mono {l : Launch} {E : Ev} {y : MethodName} {cc : ByteArray} {maxL : Nat} {ret : Option FieldType} {ho : Option (List (Nat × Nat × Nat × Nat))} {fr lo k : Nat} {av : List Value} {ws : va_W} {post post' : Option Value → va_W → Prop} (h : CtN l E y cc maxL ret ho fr lo k av ws post) (hp : ∀ v w, post v w → post' v w) : CtN l E y cc maxL ret ho fr lo k av ws post' := by
  intro sz p e ha hc hk s m args below hf happ hp9 hk9
  obtain ⟨n, o, h1, h2, h3, h4, h5⟩ := h sz p e ha hc hk s m args below hf happ hp9 hk9
  refine ⟨n, o, h1, h2, h3, ?_, h5⟩
  obtain ⟨⟨v, w, a, b, c, d⟩, f⟩ := h4
  exact ⟨⟨v, w, a, hp v w b, c, d⟩, f⟩
