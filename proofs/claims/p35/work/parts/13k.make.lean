/-! bodies that make cells: constructors, and the law's start -/
def Pn (E : Ev) (ws : va_W) (sz : Nat) (post : va_W → Prop) : Array Value → State → Outcome → State → Prop := fun _ st oc t => (∃ w : va_W, oc = .returned none ∧ post w ∧ va_P E.1 vwCl w t.heap ∧ va_D (va_A ws sz) w) ∧ va_F (va_A ws sz) st t
def Cn (l : Launch) (E : Ev) (y : MethodName) (cc : ByteArray) (maxL fr lo mc ms : Nat) (av : List Value) (ws : va_W) (post : va_W → Prop) : Prop := ∀ sz : Nat, Met l y (.code y cc maxL none :: Tw) ({ frames := fr, cells := mc, slots := ms, locals := lo }) (va_Pc av (Pr E ws sz)) (Pn E ws sz post) mc ms (va_A ws sz)
def LkI (y : MethodName) (bytes : ByteArray) (maxL n : Nat) : Prop := y.name = "<init>" ∧ Cond.instanceMethod y ∈ Tw ∧ Cond.code y bytes maxL none ∈ Tw ∧ Cond.initialized y.cls ∈ Tw ∧ (y.cls ≠ "java/lang/invoke/MethodHandle" ∧ y.cls ≠ "java/lang/invoke/VarHandle" ∧ (parseMethodDescriptor y.desc).map (fun d => d.parameters.length) = some n)
/-- the rows of such a body: Ω k n is what its end comes from when k cells of n slots have been made -/
def Mk (l : Launch) (E : Ev) (cc : ByteArray) (nL : Nat) (own : String) (fr lo mc ms : Nat) (Ω : Nat → Nat → Om) : Prop :=
  (∀ k n : Nat, k ≤ mc → n ≤ ms → Cw l E cc nL own fr lo k n (Ω k n)) ∧
  (∀ (k n : Nat) (ws : va_W) (lv : List (Nat × Value)) (st : List Value) (pc index h : Nat), Cond.methodLink own index Lib.objectInit ∈ Tw → decode cc pc = .ok (.invokespecial index, 3) → 1 ≤ fr → (st.map fun v => v.category).sum + 12 ≤ lo → Ω k n ws lv st (pc + 3) → Ω k n ws lv (.ref h :: st) pc) ∧
  (∀ (k n N : Nat) (ws : va_W) (lv : List (Nat × Value)) (st : List Value) (pc : Nat), N < 100000 → k + 1 ≤ mc → n + N ≤ ms → decode cc pc = .ok (.newarray .int, 2) → (∀ q : Nat, Ω (k + 1) (n + N) (ws ++ [(q, .inl (eI E, N, .inl (fun _ => nI 0)))]) lv (.ref q :: st) (pc + 2)) → Ω k n ws lv (.int (nI N) :: st) pc) ∧
  (∀ (k n N : Nat) (ws : va_W) (lv : List (Nat × Value)) (st : List Value) (pc : Nat), N < 100000 → k + 1 ≤ mc → n + N ≤ ms → decode cc pc = .ok (.newarray .boolean, 2) → (∀ q : Nat, Ω (k + 1) (n + N) (ws ++ [(q, .inl (eZ E, N, .inl (fun _ => nI 0)))]) lv (.ref q :: st) (pc + 2)) → Ω k n ws lv (.int (nI N) :: st) pc) ∧
  (∀ (k n : Nat) (ws : va_W) (lv : List (Nat × Value)) (st : List Value) (pc index ci N : Nat) (RC : String) (T : u_T) (ty : Nat → FieldType) (fs : List Value), (∀ w ∈ u_ws RC T N, w ∈ Tw) → (∀ k, k < N → parseFieldDescriptor (T k).2.2.1 = some (ty k)) → Cond.classLink own index RC ∈ Tw → Cond.instantiable RC N ∈ Tw → Cond.initialized RC ∈ Tw → vwCl[ci]? = some (RC, T, N) → (∀ j, j < N → defaultValue (ty j) = vp_V fs j) → k + 1 ≤ mc → n + N ≤ ms → decode cc pc = .ok (.new index, 3) → (∀ q : Nat, Ω (k + 1) (n + N) (ws ++ [(q, .inr (ci, fs))]) lv (.ref q :: st) (pc + 3)) → Ω k n ws lv st pc) ∧
  (∀ (k n mc' ms' : Nat) (ws : va_W) (lv : List (Nat × Value)) (st rest As : List Value) (pc index maxL fr' lo' h : Nat) (y : MethodName) (bytes : ByteArray) (wc wr : va_W) (is ir : List Nat) (post : va_W → Prop), Cn l E y bytes maxL fr' lo' mc' ms' (.ref h :: As) wc post → LkI y bytes maxL As.length → (Cond.methodLink own index y ∈ Tw ∨ ∃ host : String, (own, index, y, host) ∈ nestL) → decode cc pc = .ok (.invokespecial index, 3) → st = As.reverse ++ .ref h :: rest → is.map (fun i => ws[i]?) = wc.map some → va_nd is = true → ir.map (fun i => ws[i]?) = wr.map some → va_nd ir = true → (∀ i ∈ ir, i ∉ is) → (fr' + 1 ≤ fr ∧ 8 + (maxL + 11) + lo' ≤ lo) → (rest.map fun v => v.category).sum ≤ 8 → k + mc' ≤ mc → n + ms' ≤ ms → (∀ w : va_W, post w → Ω (k + mc') (n + ms') (wr ++ w) lv rest (pc + 3)) → Ω k n ws lv st pc) ∧
  (∀ (k n : Nat) (ws ws' : va_W) (lv : List (Nat × Value)) (st : List Value) (pc : Nat) (is : List Nat), va_nd is = true → is.map (fun i => ws[i]?) = ws'.map some → Ω k n ws' lv st pc → Ω k n ws lv st pc)
/-- .. of a constructor too: its own final fields -/
def MkF (cc : ByteArray) (own : String) (Ω : Nat → Nat → Om) : Prop :=
  ∀ (k n : Nat) (ws ws' : va_W) (lv : List (Nat × Value)) (st : List Value) (pc a N ci index q0 k9 : Nat) (RC : String) (T : u_T) (fs : List Value) (v : Value) (ty0 : Nat → FieldType) (ty : FieldType), (∀ w ∈ u_ws RC T N, w ∈ Tw) → vwCl[ci]? = some (RC, T, N) → (∀ k, k < N → parseFieldDescriptor (T k).2.2.1 = some (ty0 k)) → (∀ a, a < N → ∀ b, b < N → a ≠ b → (T a).2.1 ≠ (T b).2.1) → ws[q0]? = some (a, .inr (ci, fs)) → k9 < N → Cond.fieldLink own index (T k9).1 (T k9).2.1 (T k9).2.2.1 ∈ Tw → (T k9).2.2.2 = true → (T k9).1 = own → parseFieldDescriptor (T k9).2.2.1 = some ty → narrow ty v = v → fits ty v = true → k9 < fs.length → ws.set q0 (a, .inr (ci, fs.set k9 v)) = ws' → decode cc pc = .ok (.putfield index, 3) → Ω k n ws' lv st (pc + 3) → Ω k n ws lv (v :: .ref a :: st) pc
section MAKE
variable {p : Program} {l : Launch} {e : Env} {R : Room} {s : State} {m : MethodId} {args : Array Value} {below : List Frame} {meth : Method} {c : Code} {E : Ev} {nL : Nat} {own : String} {A : Nat → Prop} {Q : State → Prop} {cc : ByteArray}
theorem arr_I {tys : List (ClassId × FieldType)} {cA id : ClassId} {k : Nat} (hK : va_K E.1 vwCl (tys ++ [(cA, .int)]) s) (hk : tys[k]? = some (id, .int)) : cA = id := by
  have hl : k < tys.length := (List.getElem?_eq_some_iff.mp hk).1
  have h1 := (hK.2 k (id, .int) (by rw [List.getElem?_append_left hl]; exact hk)).2
  have h2 := (hK.2 tys.length (cA, .int) (by rw [List.getElem?_append_right (Nat.le_refl _), Nat.sub_self]; rfl)).2
  exact Option.some.inj (Eq.trans (Eq.symm h2) h1)
theorem arr_Z {tys : List (ClassId × FieldType)} {cA id : ClassId} {k : Nat} (hK : va_K E.1 vwCl (tys ++ [(cA, .boolean)]) s) (hk : tys[k]? = some (id, .boolean)) : cA = id := by
  have hl : k < tys.length := (List.getElem?_eq_some_iff.mp hk).1
  have h1 := (hK.2 k (id, .boolean) (by rw [List.getElem?_append_left hl]; exact hk)).2
  have h2 := (hK.2 tys.length (cA, .boolean) (by rw [List.getElem?_append_right (Nat.le_refl _), Nat.sub_self]; rfl)).2
  exact Option.some.inj (Eq.trans (Eq.symm h2) h1)
theorem run_new {H : Heap} {locs : List Loc} {kc ks mc' ms' pc : Nat} {ls : Array Slot} {st0 rest : List Value} {ws wc wr : va_W} {is ir : List Nat} {post : va_W → Prop} {a : Array Value} (hP : va_P E.1 vwCl ws H) (hD : va_D A ws) (hS : va_S A s.heap H locs) (hA : ∀ q : Nat, s.heap.size ≤ q → A q) (hC : is.map (fun i => ws[i]?) = wc.map some) (hCr : ir.map (fun i => ws[i]?) = wr.map some) (hnr : va_nd ir = true) (hdis : ∀ i ∈ ir, i ∉ is)
    (hr : va_Run p l e R s m args below meth c H locs kc ks mc' ms' (F0 m pc ls st0) rest (Pn E wc H.size post a) (va_A wc H.size))
    (kk : ∀ (w : va_W) (H1 : Heap) (locs1 : List Loc), post w → va_P E.1 vwCl (wr ++ w) H1 → va_D A (wr ++ w) → va_S A s.heap H1 locs1 → W p l e R s m args below meth c H1 locs1 (kc + mc') (ks + ms') Q (F0 m (pc + 3) ls rest)) : W p l e R s m args below meth c H locs kc ks Q (F0 m pc ls st0) := by
  have hF := va_free hD hS hA is hC
  intro T hT X
  obtain ⟨v, st₀, t, T', L, h0, X', hL, e1, e2, ⟨⟨w, hv, hp, hP1, hD1⟩, hz, hk⟩, st⟩ := hr T hT X
  cases hv
  rw [h0] at hz hk
  rw [← e1] at hz hk hP1
  obtain ⟨hP2, hD2⟩ := va_join hP hD is ir hC hCr hnr hdis hk hF hP1 hD1
  obtain ⟨t2, a1, b1⟩ := kk w T'.heap (locs ++ L) hp hP2 hD2
    ⟨Nat.le_trans hS.1 hz, fun q h1 h2 => by rw [hk q (Nat.lt_of_lt_of_le h1 hS.1) (fun z => h2 (hF q z))]; exact hS.2.1 q h1 h2, fun q hq => by
      rcases List.mem_append.mp hq with h | h
      · exact hS.2.2 q h
      · exact hF _ (hL q h)⟩ T' rfl X'
  exact ⟨t2, st t2 a1, b1⟩
set_option maxHeartbeats 1000000 in
theorem mk_of (hx : p.tables.exec = Jvm.exec) (hb : c.code = cc) (hml : c.maxLocals = nL) (hown : s.vm.findClass own = some m.cls) (hts : ∀ w ∈ Tw, w.before args s = true) (hK : va_K E.1 vwCl (tyE E) s) (hA : ∀ q : Nat, s.heap.size ≤ q → A q) (hG : Gw E A s s.heap) : Mk l E cc nL own R.frames R.locals R.cells R.slots (omL p l e R s m args below meth c E nL A Q) := by
  refine ⟨?_, ?_, ?_, ?_, ?_, ?_, ?_⟩
  · intro k n hk hn
    exact ⟨p, e, R, s, m, args, below, meth, c, A, Q, hx, hb, hml, hown, hts, hK, hA, hG, rfl, rfl, hk, hn, rfl⟩
  · intro k n ws lv st pc index h hl hd hf hlo kk H locs ls hP hD hS hl9
    refine W.objInit hx hb hown (hts _ hl) (hts _ w_1_26) (hts _ w_1_27) rfl (by rw [hml]; exact hl9.1) rfl hd hf (by show 2 * 0 + _ + 12 ≤ _; omega) ?_
    exact kk H locs ls hP hD hS hl9
  · intro k n N ws lv st pc hN hk hn hd kk H locs ls hP hD hS hl9
    refine va_newa (atype := .int) (ty := .int) hx hb (hts _ w_1_42) rfl hK hP hD hS hA (a0 := (N, .inl fun _ => nI 0)) (fun _ => rfl) (nI_pos (by omega)) (nI_clamp (by omega)) (by show N * 4 ≤ _; omega) hk hn hd (fun q cA H1 hK1 hP1 hD1 hS1 => ?_)
    have e := arr_I hK1 (k := 0) rfl
    subst e
    exact kk q H1 locs ls hP1 hD1 hS1 hl9
  · intro k n N ws lv st pc hN hk hn hd kk H locs ls hP hD hS hl9
    refine va_newa (atype := .boolean) (ty := .boolean) hx hb (hts _ w_1_72) rfl hK hP hD hS hA (a0 := (N, .inl fun _ => nI 0)) (fun _ => rfl) (nI_pos (by omega)) (nI_clamp (by omega)) (by show N * 1 ≤ _; omega) hk hn hd (fun q cA H1 hK1 hP1 hD1 hS1 => ?_)
    have e := arr_Z hK1 (k := 1) rfl
    subst e
    exact kk q H1 locs ls hP1 hD1 hS1 hl9
  · intro k n ws lv st pc index ci N RC T ty fs hin hty hcl hinst hini hc hfs hk hn hd kk H locs ls hP hD hS hl9
    exact va_new (Ts := Tw) hx hb hts hin ty hty hown (hts _ hcl) (hts _ hinst) (hts _ hini) hK hP hD hS hA hc hfs hk hn hd (fun q H1 hP1 hD1 hS1 => kk q H1 locs ls hP1 hD1 hS1 hl9)
  · intro k n mc' ms' ws lv st rest As pc index maxL fr' lo' h y bytes wc wr is ir post hM hk hl hd hst hC hn hCr hnr hdis hR hrm hkc hks kk H locs ls hP hD hS hl9
    obtain ⟨k0, k1, k2, k3, k4⟩ := hk
    rcases hl with hl | ⟨host, hl⟩
    · refine run_new hP hD hS hA hC hCr hnr hdis (va_runI (As := As) (rest := rest) (b := h) (index := index) ⟨hx, hb, hml, hown, hts⟩ (hM H.size) ⟨cB As.length hts k2 k3 hl k4 hR, k0, hts _ k1⟩ ⟨Pr_blind, fun U hU hW => ⟨rfl, Pr_cut hK hG hA hP hD hS hC hn hU hW⟩⟩ rfl rfl hl9.1 hst (lv_room hrm) hd ⟨hkc, hks⟩) ?_
      intro w H1 locs1 hp hP1 hD1 hS1
      exact kk w hp H1 locs1 ls hP1 hD1 hS1 hl9
    · refine run_new hP hD hS hA hC hCr hnr hdis (va_runIN (As := As) (rest := rest) (b := h) (index := index) (host := host) ⟨hx, hb, hml, hown, hts⟩ (hM H.size) ⟨va_cnB As.length hts (gdT k2) rfl rfl rfl (hG.1 _ hl) (hts _ k3) k4 hR, k0, hts _ k1⟩ ⟨Pr_blind, fun U hU hW => ⟨rfl, Pr_cut hK hG hA hP hD hS hC hn hU hW⟩⟩ rfl rfl hl9.1 hst (lv_room hrm) hd ⟨hkc, hks⟩) ?_
      intro w H1 locs1 hp hP1 hD1 hS1
      exact kk w hp H1 locs1 ls hP1 hD1 hS1 hl9
  · intro k n ws ws' lv st pc is hn hC kk H locs ls hP hD hS hl9
    exact kk H locs ls (fun k q hq => by obtain ⟨i, -, h2⟩ := cut_at hC hq; exact hP i q h2) (hD.sub is hn hC) hS hl9
theorem mkf_of (hx : p.tables.exec = Jvm.exec) (hb : c.code = cc) (hown : s.vm.findClass own = some m.cls) (hts : ∀ w ∈ Tw, w.before args s = true) (hK : va_K E.1 vwCl (tyE E) s) (hin9 : meth.name = "<init>") : MkF cc own (omL p l e R s m args below meth c E nL A Q) := by
  intro k n ws ws' lv st pc a N ci index q0 k9 RC T fs v ty0 ty hin hc hty hnm he hk hl9 hfin hdecl hpd hn hfit hlen hw hd kk H locs ls hP hD hS hl
  subst hw
  exact va_putF (Ts := Tw) hx hb hts hin ty0 hty hnm hown hK hP hD hS q0 he hc k9 hk (hts _ hl9) (fun _ h => h) hfin hin9 hdecl hpd hn hfit hlen hd (fun H1 locs1 hP hD hS => kk H1 locs1 ls hP hD hS hl)
end MAKE
set_option maxHeartbeats 1000000 in
theorem cn_of {l : Launch} {E : Ev} {y : MethodName} {cc : ByteArray} {maxL fr lo mc ms : Nat} {av : List Value} {ws : va_W} {post : va_W → Prop} (hy : plainName y.cls = true) (hnm : y.name = "<init>") (hlen : (lg_sl av).length ≤ maxL) (body : ∀ Ω : Nat → Nat → Om, Mk l E cc maxL y.cls fr lo mc ms Ω → MkF cc y.cls Ω → (∀ (w : va_W) (lv : List (Nat × Value)) (pc : Nat), decode cc pc = .ok (.return_, 1) → post w → Ω mc ms w lv [] pc) → Ω 0 0 ws (lv_args 0 av) [] 0) : Cn l E y cc maxL fr lo mc ms av ws post := by
  intro sz
  refine Met.ofW (cc := cc) (maxL := maxL) (ret := none) hy rfl ?_
  intro p e s m args below meth c s₁ B hml hv
  obtain ⟨rfl, hsz, hP, hK, hD0, hG⟩ := hv
  have hts := atoms_spec (ws := .code y cc maxL none :: Tw) B.pre
  have hown : s.vm.findClass y.cls = some m.cls := findClass_of_methodNamed B.named
  have hin9 : meth.name = "<init>" := (name_of_methodNamed B.named B.method).1.trans hnm
  have hx := B.exec
  have hb := B.bytes
  have hr := B.returns
  have hlocks := B.notSynchronized
  subst hsz
  rw [lg_entry_eq]
  have hl := lv_entry av hlen
  have hts9 : ∀ w ∈ Tw, w.before av.toArray s = true := fun w h => hts w (List.mem_cons_of_mem _ h)
  refine body (omL p l e ({ frames := fr, cells := mc, slots := ms, locals := lo }) s m av.toArray below meth c E maxL (va_A ws s.heap.size) (MQ below (Pn E ws s.heap.size post) av.toArray s mc ms (va_A ws s.heap.size))) (mk_of (R := { frames := fr, cells := mc, slots := ms, locals := lo }) hx hb hml hown hts9 hK (fun q h => Or.inr h) hG) (mkf_of hx hb hown hts9 hK hin9) ?_ s.heap [] _ hP hD0.self va_S.rf hl
  intro w lv pc hd hp H locs ls hP hD hS hl
  exact W.vret hx hb hr (fun t ht hW => ⟨⟨w, rfl, hp, by rw [ht]; exact hP, hD⟩, hS.F ht⟩) hS.2.2 hd hlocks
