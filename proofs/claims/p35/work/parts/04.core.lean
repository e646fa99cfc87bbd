/-! contracts over worlds; rows over a predicate ω of a method's own (the world, the locals, the stack, the pc) -/
abbrev Ev : Type := va_G × (ClassId × ClassId × ClassId) × (Nat → Nat) × (Nat → Nat)
abbrev eI (E : Ev) : ClassId := E.2.1.1
abbrev eZ (E : Ev) : ClassId := E.2.1.2.1
abbrev eJ (E : Ev) : ClassId := E.2.1.2.2
abbrev tyE (E : Ev) : List (ClassId × FieldType) := [(eI E, .int), (eZ E, .boolean)]
def nestL : List (String × Nat × MethodName × String) := [("BillArchive", 21, yX1_init, "BillArchive"), ("BillArchive", 36, yX2_init, "BillArchive"), ("BillArchive", 43, yX0_init, "BillArchive"), ("BillArchive", 53, yX3_init, "BillArchive"), ("BillArchive$Season", 11, yX0_init, "BillArchive"), ("BillArchive$State", 39, yX5_hasNight, "BillArchive"), ("BillArchive$State", 42, yX5_holds, "BillArchive"), ("BillArchive$State", 28, yX5_isIndex, "BillArchive"), ("BillArchive$Evening", 99, yX5_holds, "BillArchive")]
def strL : List (String × Nat × String) := [("BillArchive", 414, "no such actor"), ("BillArchive", 410, "no such night"), ("BillArchive", 63, "no character code"), ("BillArchive", 74, "the text is full"), ("BillArchive$RunText", 50, "9"), ("BillArchive$RunText", 52, "5919"), ("BillArchive$RunText", 54, "59"), ("BillArchive$RunText", 56, "919"), ("BillArchive$RunText", 58, "19592h"), ("BillArchive$RunText", 60, ""), ("BillArchive", 91, "the text is not a run"), ("BillArchive", 163, "what is not 0 to 6"), ("BillArchive", 412, "no such part"), ("BillArchive", 203, "what is not 0 to 3"), ("BillArchive", 215, "what is not 0 to 4"), ("BillArchive", 243, "what is not 0 to 5"), ("BillArchive", 248, "a rank is not negative"), ("BillArchive", 419, "no such slip"), ("BillArchive", 421, "no such setting"), ("BillArchive", 277, "fame is not 0 to 9"), ("BillArchive", 282, "there are 10 actors"), ("BillArchive", 290, "there are 6 parts"), ("BillArchive", 297, "no such part, night or actor"), ("BillArchive", 303, "there are 4 understudies, or the actor is one of them"), ("BillArchive", 311, "the actor is no understudy of the part"), ("BillArchive", 326, "the value is out of its range"), ("BillArchive", 333, "no state is remembered"), ("BillArchive", 338, "k is negative"), ("BillArchive", 348, "what is neither 0 nor 1"), ("BillArchive", 423, "no such save slot"), ("BillArchive", 405, "nothing has been saved in this slot"), ("BillArchive", 316, "an hour is 0 to 23"), ("BillArchive", 321, "there are 20 slips"), ("BillArchive", 359, "a script has 1 to 3 commands"), ("BillArchive", 365, "the script is negative or too long"), ("BillArchive", 388, "m is not 1 to 60")]
def digL : List Nat := [4, 5, 6, 7, 8, 9]
def digN : List Nat := [1, 4, 2, 3, 6, 0]
def digB : List (List Int32) := [[57], [53, 57, 49, 57], [53, 57], [57, 49, 57], [49, 57, 53, 57, 50, 104], []]
def thL : List Cond := [Cond.castable "java/lang/IndexOutOfBoundsException" "java/lang/IndexOutOfBoundsException", Cond.declares (⟨"java/lang/RuntimeException", "<init>", "()V"⟩ : MethodName), Cond.declares (⟨"java/lang/RuntimeException", "<init>", "(Ljava/lang/String;)V"⟩ : MethodName), Cond.declares (⟨"java/lang/Exception", "<init>", "()V"⟩ : MethodName), Cond.declares (⟨"java/lang/Exception", "<init>", "(Ljava/lang/String;)V"⟩ : MethodName), Cond.declares (⟨"java/lang/Throwable", "<init>", "()V"⟩ : MethodName), Cond.declares (⟨"java/lang/Throwable", "<init>", "(Ljava/lang/String;)V"⟩ : MethodName), Cond.castable "java/lang/IllegalArgumentException" "java/lang/IllegalArgumentException", Cond.castable "java/lang/IllegalStateException" "java/lang/IllegalStateException"]
theorem thL_ot (w : Cond) (hw : w ∈ thL) : w.onTables = true := List.all_eq_true.mp (by decide : thL.all Cond.onTables = true) w hw
theorem thL_warm {s U : State} (hW : s.WarmedH U.vm) {w : Cond} (hw : w ∈ thL) (h : va_Nw w s) : va_Nw w U := by
  simp only [thL, List.mem_cons, List.not_mem_nil, or_false] at hw
  rcases hw with rfl | rfl | rfl | rfl | rfl | rfl | rfl | rfl | rfl
  all_goals first | exact va_Nw.warmC hW h | exact va_tabs (A := #[]) rfl (rfl : (s.setVm U.vm).vm = U.vm) (by rw [Cond.declares_setVm hW.alike]; exact h)
def Gw (E : Ev) (A : Nat → Prop) (U : State) (H : Heap) : Prop := (∀ q ∈ nestL, va_Nw (.methodLinkNest q.1 q.2.1 q.2.2.1 q.2.2.2) U) ∧ (∀ (i : Nat) (q : String × Nat × String), strL[i]? = some q → vk_R q.1 q.2.1 q.2.2 (E.2.2.1 i) U) ∧ vx_Zq Bundle.tN "UNASSIGNED_STACK" Bundle.steD A U H ∧ vx_Zq Bundle.tN "SUPPRESSED_SENTINEL" Bundle.listD A U H ∧ (∀ i : Nat, i < digL.length → vk_S 1 [digN.getD i 0] [digB.getD i []] (fun _ => E.2.2.1 (digL.getD i 0)) (fun _ => E.2.2.2 i) A U H) ∧ va_Z "java/lang/String" "COMPACT_STRINGS" "Z" (.int 1) A U H ∧ va_Zq "jdk/internal/util/Preconditions" "SIOOBE_FORMATTER" "Ljava/util/function/BiFunction;" A U H ∧ (∀ w ∈ thL, va_Nw w U)
theorem Gw.warm {E : Ev} {A : Nat → Prop} {s U : State} {H : Heap} (hW : s.WarmedH U.vm) (h : Gw E A s H) : Gw E A U H := ⟨fun q hq => va_Nw.warmM hW (h.1 q hq), fun i q hq => vk_R.warm hW (h.2.1 i q hq), vx_Zq.moved hW.alike h.2.2.1, vx_Zq.moved hW.alike h.2.2.2.1, fun i hi => vk_S.moved hW.alike (h.2.2.2.2.1 i hi), va_Z.moved hW.alike h.2.2.2.2.2.1, va_Zq.moved hW.alike h.2.2.2.2.2.2.1, fun w hw => thL_warm hW hw (h.2.2.2.2.2.2.2 w hw)⟩
theorem Gw.same {E : Ev} {A : Nat → Prop} {u U : State} {H : Heap} (hv : U.vm = u.vm) (h : Gw E A u H) : Gw E A U H := ⟨fun q hq => va_Nw.same rfl hv.symm (h.1 q hq), fun i q hq => vk_R.same hv (h.2.1 i q hq), vx_Zq.moved (by rw [hv]; exact Vm.Alike.refl _) h.2.2.1, vx_Zq.moved (by rw [hv]; exact Vm.Alike.refl _) h.2.2.2.1, fun i hi => vk_S.moved (by rw [hv]; exact Vm.Alike.refl _) (h.2.2.2.2.1 i hi), va_Z.moved (by rw [hv]; exact Vm.Alike.refl _) h.2.2.2.2.2.1, va_Zq.moved (by rw [hv]; exact Vm.Alike.refl _) h.2.2.2.2.2.2.1, fun w hw => va_Nw.same (thL_ot w hw) hv.symm (h.2.2.2.2.2.2.2 w hw)⟩
theorem Gw.kept {E : Ev} {A : Nat → Prop} {U : State} {H H1 : Heap} (h : Gw E A U H) (hq : ∀ a : Nat, a < H.size → ¬ A a → H1[a]? = H[a]?) : Gw E A U H1 := ⟨h.1, h.2.1, vx_Zq.kept h.2.2.1 hq, vx_Zq.kept h.2.2.2.1 hq, fun i hi => vk_S.kept (h.2.2.2.2.1 i hi) hq, va_Z.kept h.2.2.2.2.2.1 hq, va_Zq.kept h.2.2.2.2.2.2.1 hq, h.2.2.2.2.2.2.2⟩
theorem Gw.narrow {E : Ev} {A B : Nat → Prop} {U : State} {H : Heap} (h : Gw E A U H) (hAB : ∀ q, B q → A q) : Gw E B U H := ⟨h.1, h.2.1, vx_Zq.narrow h.2.2.1 hAB, vx_Zq.narrow h.2.2.2.1 hAB, fun i hi => vk_S.narrow (h.2.2.2.2.1 i hi) hAB, va_Z.narrow h.2.2.2.2.2.1 hAB, va_Zq.narrow h.2.2.2.2.2.2.1 hAB, h.2.2.2.2.2.2.2⟩
/-- a method's start: its world, and what stays of the machine's own -/
def Pr (E : Ev) (ws : va_W) (sz : Nat) (U : State) : Prop := U.heap.size = sz ∧ va_P E.1 vwCl ws U.heap ∧ va_K E.1 vwCl (tyE E) U ∧ va_D (fun _ => True) ws ∧ Gw E (va_A ws sz) U U.heap
theorem Pr_blind {E : Ev} {ws : va_W} {sz : Nat} {av : List Value} : FrameBlind (va_Pc av (Pr E ws sz)) := by
  intro a U g mk h
  obtain ⟨h0, h1, h2, h3, h4, h5⟩ := h
  exact ⟨h0, h1, h2, va_K.moved (u := U) (U := U.calling g mk a) (Vm.Alike.refl U.vm) h3, h4, Gw.same (u := U) (U := U.calling g mk a) rfl h5⟩
/-- a method's end: what it answers, and its world then, the same cells -/
def Po (E : Ev) (ws : va_W) (sz : Nat) (post : Option Value → va_W → Prop) : Array Value → State → Outcome → State → Prop := fun _ st oc t => (∃ (v : Option Value) (w : va_W), oc = .returned v ∧ post v w ∧ va_P E.1 vwCl w t.heap ∧ w.map Prod.fst = ws.map Prod.fst) ∧ va_F (va_A ws sz) st t
/-- the contract of a method that returns and makes nothing -/
def Ct (l : Launch) (E : Ev) (y : MethodName) (cc : ByteArray) (maxL : Nat) (ret : Option FieldType) (fr lo : Nat) (av : List Value) (ws : va_W) (post : Option Value → va_W → Prop) : Prop := ∀ sz : Nat, Met l y (.code y cc maxL ret :: Tw) ({ frames := fr, cells := 0, slots := 0, locals := lo }) (va_Pc av (Pr E ws sz)) (Po E ws sz post) 0 0 (va_A ws sz)
/-- .. that only reads -/
abbrev Cr (l : Launch) (E : Ev) (y : MethodName) (cc : ByteArray) (maxL : Nat) (ret : Option FieldType) (fr lo : Nat) (av : List Value) (ws : va_W) (rv : Option Value) : Prop := Ct l E y cc maxL ret fr lo av ws (fun v w => v = rv ∧ w = ws)
/-- the contract of a method that throws, and what its world is then -/
def Th (l : Launch) (E : Ev) (y : MethodName) (cc : ByteArray) (maxL : Nat) (ret : Option FieldType) (fr lo : Nat) (av : List Value) (ws : va_W) (pw : va_W → Prop) (X : String) : Prop := ∀ sz : Nat, vx_Met l y (.code y cc maxL ret :: Tw) ({ frames := fr, cells := 1, slots := 6, locals := lo }) (va_Pc av (Pr E ws sz)) (fun _ _ _ _ => False) (fun X' st t => X' = X ∧ (∃ w : va_W, pw w ∧ va_P E.1 vwCl w t.heap ∧ w.map Prod.fst = ws.map Prod.fst) ∧ va_F (va_A ws sz) st t) 1 6 (va_A ws sz)
abbrev Om : Type := va_W → List (Nat × Value) → List Value → Nat → Prop
/-- ω is what a body of the code cc in the class own comes to its end from -/
def Cw (l : Launch) (E : Ev) (cc : ByteArray) (nL : Nat) (own : String) (fr lo kc ks : Nat) (ω : Om) : Prop := ∃ (p : Program) (e : Env) (R : Room) (s : State) (m : MethodId) (args : Array Value) (below : List Frame) (meth : Method) (c : Code) (A : Nat → Prop) (Q : State → Prop),
  p.tables.exec = Jvm.exec ∧ c.code = cc ∧ c.maxLocals = nL ∧ s.vm.findClass own = some m.cls ∧ (∀ w ∈ Tw, w.before args s = true) ∧ va_K E.1 vwCl (tyE E) s ∧ (∀ q : Nat, s.heap.size ≤ q → A q) ∧ Gw E A s s.heap ∧ R.frames = fr ∧ R.locals = lo ∧ kc ≤ R.cells ∧ ks ≤ R.slots ∧
  ω = fun ws lv st pc => ∀ (H : Heap) (locs : List Loc) (ls : Array Slot), va_P E.1 vwCl ws H → va_D A ws → va_S A s.heap H locs → lv_has ls nL lv → W p l e R s m args below meth c H locs kc ks Q (F0 m pc ls st)
/-- its ends by a return -/
def Rt (cc : ByteArray) (ret : Option FieldType) (ws0 : va_W) (post : Option Value → va_W → Prop) (ω : Om) : Prop :=
  (∀ (ws : va_W) (lv : List (Nat × Value)) (pc : Nat) (v : Int32) (ty : FieldType), decode cc pc = .ok (.ireturn, 1) → ret = some ty → narrow ty (.int v) = .int v → post (some (.int v)) ws → ws.map Prod.fst = ws0.map Prod.fst → ω ws lv [.int v] pc) ∧
  (∀ (ws : va_W) (lv : List (Nat × Value)) (pc : Nat) (v : Int64), decode cc pc = .ok (.lreturn, 1) → ret = some .long → post (some (.long v)) ws → ws.map Prod.fst = ws0.map Prod.fst → ω ws lv [.long v] pc) ∧
  (∀ (ws : va_W) (lv : List (Nat × Value)) (pc : Nat), decode cc pc = .ok (.return_, 1) → ret = none → post none ws → ws.map Prod.fst = ws0.map Prod.fst → ω ws lv [] pc) ∧
  (∀ (ws : va_W) (lv : List (Nat × Value)) (pc : Nat) (a : Nat) (n : String), decode cc pc = .ok (.areturn, 1) → ret = some (.object n) → post (some (.ref a)) ws → ws.map Prod.fst = ws0.map Prod.fst → ω ws lv [.ref a] pc)
set_option maxHeartbeats 1000000 in
theorem ct_of {l : Launch} {E : Ev} {y : MethodName} {cc : ByteArray} {maxL : Nat} {ret : Option FieldType} {fr lo : Nat} {av : List Value} {ws : va_W} {post : Option Value → va_W → Prop} (hy : plainName y.cls = true) (hlen : (lg_sl av).length ≤ maxL) (body : ∀ ω : Om, Cw l E cc maxL y.cls fr lo 0 0 ω → Rt cc ret ws post ω → ω ws (lv_args 0 av) [] 0) : Ct l E y cc maxL ret fr lo av ws post := by
  intro sz
  refine Met.ofW (cc := cc) (maxL := maxL) (ret := ret) hy rfl ?_
  intro p e s m args below meth c s₁ B hml hv
  obtain ⟨rfl, hsz, hP, hK, hD0, hG⟩ := hv
  have hts := atoms_spec (ws := .code y cc maxL ret :: Tw) B.pre
  have hown : s.vm.findClass y.cls = some m.cls := findClass_of_methodNamed B.named
  have hx := B.exec
  have hb := B.bytes
  have hr := B.returns
  have hlocks := B.notSynchronized
  subst hsz
  rw [lg_entry_eq]
  have hl := lv_entry av hlen
  refine body (fun ws lv st pc => ∀ (H : Heap) (locs : List Loc) (ls : Array Slot), va_P E.1 vwCl ws H → va_D _ ws → va_S _ s.heap H locs → lv_has ls maxL lv → W p l e _ s m _ below meth c H locs 0 0 _ (F0 m pc ls st)) ⟨p, e, _, s, m, _, below, meth, c, va_A ws s.heap.size, _, hx, hb, hml, hown, fun w h => hts w (List.mem_cons_of_mem _ h), hK, fun q h => Or.inr h, hG, rfl, rfl, Nat.zero_le _, Nat.zero_le _, rfl⟩ ⟨?_, ?_, ?_, ?_⟩ s.heap [] _ hP hD0.self va_S.rf hl
  · intro w lv pc v ty hd hret hn hp ha H locs ls hP hD hS hl
    exact W.zret hx hb (hr.trans hret) hn (fun t ht hW => ⟨⟨_, w, rfl, hp, by rw [ht]; exact hP, ha⟩, hS.F ht⟩) hS.2.2 hd hlocks
  · intro w lv pc v hd hret hp ha H locs ls hP hD hS hl
    exact W.lret hx hb (hr.trans hret) (fun t ht hW => ⟨⟨_, w, rfl, hp, by rw [ht]; exact hP, ha⟩, hS.F ht⟩) hS.2.2 hd hlocks
  · intro w lv pc hd hret hp ha H locs ls hP hD hS hl
    exact W.vret hx hb (hr.trans hret) (fun t ht hW => ⟨⟨_, w, rfl, hp, by rw [ht]; exact hP, ha⟩, hS.F ht⟩) hS.2.2 hd hlocks
  · intro w lv pc a n hd hret hp ha H locs ls hP hD hS hl
    exact W.aret hx hb (hr.trans hret) (Or.inl ⟨n, rfl⟩) (Or.inr ⟨a, rfl⟩) (fun t ht hW => ⟨⟨_, w, rfl, hp, by rw [ht]; exact hP, ha⟩, hS.F ht⟩) hS.2.2 hd hlocks

section ROWS
variable {l : Launch} {E : Ev} {cc : ByteArray} {nL : Nat} {own : String} {fr lo kc ks : Nat} {ω : Om} {ws : va_W} {lv : List (Nat × Value)} {st rest : List Value} {pc : Nat}
theorem r_iconst (C : Cw l E cc nL own fr lo kc ks ω) {n : Int} {v : Int32} (hd : decode cc pc = .ok (.iconst n, 1)) (hv : Int32.ofInt n = v) (k : ω ws lv (.int v :: st) (pc + 1)) : ω ws lv st pc := by
  obtain ⟨p, e, R, s, m, args, below, meth, c, A, Q, hx, hb, hml, hown, hts, hK, hA, hG, hfr, hlo, hkc, hks, rfl⟩ := C
  intro H locs ls hP hD hS hl
  exact lv_iconst hx hb hd hv (k H locs ls hP hD hS hl)
theorem r_bipush (C : Cw l E cc nL own fr lo kc ks ω) {n : Int} {v : Int32} (hd : decode cc pc = .ok (.bipush n, 2)) (hv : (Int8.ofInt n).toInt32 = v) (k : ω ws lv (.int v :: st) (pc + 2)) : ω ws lv st pc := by
  obtain ⟨p, e, R, s, m, args, below, meth, c, A, Q, hx, hb, hml, hown, hts, hK, hA, hG, hfr, hlo, hkc, hks, rfl⟩ := C
  intro H locs ls hP hD hS hl
  exact lv_bipush hx hb hd hv (k H locs ls hP hD hS hl)
theorem r_sipush (C : Cw l E cc nL own fr lo kc ks ω) {n : Int} {v : Int32} (hd : decode cc pc = .ok (.sipush n, 3)) (hv : (Int16.ofInt n).toInt32 = v) (k : ω ws lv (.int v :: st) (pc + 3)) : ω ws lv st pc := by
  obtain ⟨p, e, R, s, m, args, below, meth, c, A, Q, hx, hb, hml, hown, hts, hK, hA, hG, hfr, hlo, hkc, hks, rfl⟩ := C
  intro H locs ls hP hD hS hl
  exact lv_sipush hx hb hd hv (k H locs ls hP hD hS hl)
theorem r_lconst (C : Cw l E cc nL own fr lo kc ks ω) {n : Fin 2} {v : Int64} (hd : decode cc pc = .ok (.lconst n, 1)) (hv : Int64.ofNat (n : Nat) = v) (k : ω ws lv (.long v :: st) (pc + 1)) : ω ws lv st pc := by
  obtain ⟨p, e, R, s, m, args, below, meth, c, A, Q, hx, hb, hml, hown, hts, hK, hA, hG, hfr, hlo, hkc, hks, rfl⟩ := C
  intro H locs ls hP hD hS hl
  exact lv_lconst hx hb hd hv (k H locs ls hP hD hS hl)
theorem r_ldc (C : Cw l E cc nL own fr lo kc ks ω) {i : Nat} {v : Int32} (hd : decode cc pc = .ok (.ldc i, 2)) (hw : Cond.constant own i v ∈ Tw) (k : ω ws lv (.int v :: st) (pc + 2)) : ω ws lv st pc := by
  obtain ⟨p, e, R, s, m, args, below, meth, c, A, Q, hx, hb, hml, hown, hts, hK, hA, hG, hfr, hlo, hkc, hks, rfl⟩ := C
  intro H locs ls hP hD hS hl
  exact lv_ldc hx hb hown (hts _ hw) hd (k H locs ls hP hD hS hl)
theorem r_ldcw (C : Cw l E cc nL own fr lo kc ks ω) {i : Nat} {v : Int32} (hd : decode cc pc = .ok (.ldc_w i, 3)) (hw : Cond.constant own i v ∈ Tw) (k : ω ws lv (.int v :: st) (pc + 3)) : ω ws lv st pc := by
  obtain ⟨p, e, R, s, m, args, below, meth, c, A, Q, hx, hb, hml, hown, hts, hK, hA, hG, hfr, hlo, hkc, hks, rfl⟩ := C
  intro H locs ls hP hD hS hl
  exact lv_ldcw hx hb hown (hts _ hw) hd (k H locs ls hP hD hS hl)
theorem r_ldc2 (C : Cw l E cc nL own fr lo kc ks ω) {i : Nat} {v : Int64} (hd : decode cc pc = .ok (.ldc2_w i, 3)) (hw : Cond.constantLong own i v ∈ Tw) (k : ω ws lv (.long v :: st) (pc + 3)) : ω ws lv st pc := by
  obtain ⟨p, e, R, s, m, args, below, meth, c, A, Q, hx, hb, hml, hown, hts, hK, hA, hG, hfr, hlo, hkc, hks, rfl⟩ := C
  intro H locs ls hP hD hS hl
  exact lv_ldc2 hx hb hown (hts _ hw) hd (k H locs ls hP hD hS hl)
theorem r_ldcS (C : Cw l E cc nL own fr lo kc ks ω) {i j : Nat} {tx : String} (hd : decode cc pc = .ok (.ldc i, 2)) (hw : strL[j]? = some (own, i, tx)) (k : ω ws lv (.ref (E.2.2.1 j) :: st) (pc + 2)) : ω ws lv st pc := by
  obtain ⟨p, e, R, s, m, args, below, meth, c, A, Q, hx, hb, hml, hown, hts, hK, hA, hG, hfr, hlo, hkc, hks, rfl⟩ := C
  intro H locs ls hP hD hS hl
  exact va_ldcS hx hb hown (hG.2.1 j _ hw) hd (k H locs ls hP hD hS hl)
theorem r_iload_n (C : Cw l E cc nL own fr lo kc ks ω) {k9 : Fin 4} {i : Nat} {x : Int32} (j : Nat) (hd : decode cc pc = .ok (.iload_n k9, 1)) (hi : (k9 : Nat) = i) (hj : lv[j]? = some (i, .int x)) (k : ω ws lv (.int x :: st) (pc + 1)) : ω ws lv st pc := by
  obtain ⟨p, e, R, s, m, args, below, meth, c, A, Q, hx, hb, hml, hown, hts, hK, hA, hG, hfr, hlo, hkc, hks, rfl⟩ := C
  intro H locs ls hP hD hS hl
  exact lv_iload_n hx hb hd hi (lv_at hl j hj) (k H locs ls hP hD hS hl)
theorem r_iload (C : Cw l E cc nL own fr lo kc ks ω) {i : Nat} {x : Int32} (j : Nat) (hd : decode cc pc = .ok (.iload i, 2)) (hj : lv[j]? = some (i, .int x)) (k : ω ws lv (.int x :: st) (pc + 2)) : ω ws lv st pc := by
  obtain ⟨p, e, R, s, m, args, below, meth, c, A, Q, hx, hb, hml, hown, hts, hK, hA, hG, hfr, hlo, hkc, hks, rfl⟩ := C
  intro H locs ls hP hD hS hl
  exact lv_iload hx hb hd (lv_at hl j hj) (k H locs ls hP hD hS hl)
theorem r_istore_n (C : Cw l E cc nL own fr lo kc ks ω) {k9 : Fin 4} {i : Nat} {x : Int32} {lv' : List (Nat × Value)} (hd : decode cc pc = .ok (.istore_n k9, 1)) (hi : (k9 : Nat) = i) (hn : i < nL) (he : (i, Value.int x) :: lv.filter (fun q => !(q.1 == i) && !(q.1 + 1 == i && q.2.category == 2)) = lv') (k : ω ws lv' st (pc + 1)) : ω ws lv (.int x :: st) pc := by
  obtain ⟨p, e, R, s, m, args, below, meth, c, A, Q, hx, hb, hml, hown, hts, hK, hA, hG, hfr, hlo, hkc, hks, rfl⟩ := C
  intro H locs ls hP hD hS hl
  exact lv_istore_n hx hb hd hi hl hn he (fun ls' hl' => k H locs ls' hP hD hS hl')
theorem r_istore (C : Cw l E cc nL own fr lo kc ks ω) {i : Nat} {x : Int32} {lv' : List (Nat × Value)} (hd : decode cc pc = .ok (.istore i, 2)) (hn : i < nL) (he : (i, Value.int x) :: lv.filter (fun q => !(q.1 == i) && !(q.1 + 1 == i && q.2.category == 2)) = lv') (k : ω ws lv' st (pc + 2)) : ω ws lv (.int x :: st) pc := by
  obtain ⟨p, e, R, s, m, args, below, meth, c, A, Q, hx, hb, hml, hown, hts, hK, hA, hG, hfr, hlo, hkc, hks, rfl⟩ := C
  intro H locs ls hP hD hS hl
  exact lv_istore hx hb hd hl hn he (fun ls' hl' => k H locs ls' hP hD hS hl')
theorem r_lload_n (C : Cw l E cc nL own fr lo kc ks ω) {k9 : Fin 4} {i : Nat} {x : Int64} (j : Nat) (hd : decode cc pc = .ok (.lload_n k9, 1)) (hi : (k9 : Nat) = i) (hj : lv[j]? = some (i, .long x)) (k : ω ws lv (.long x :: st) (pc + 1)) : ω ws lv st pc := by
  obtain ⟨p, e, R, s, m, args, below, meth, c, A, Q, hx, hb, hml, hown, hts, hK, hA, hG, hfr, hlo, hkc, hks, rfl⟩ := C
  intro H locs ls hP hD hS hl
  exact lv_lload_n hx hb hd hi (lv_at hl j hj) (k H locs ls hP hD hS hl)
theorem r_lload (C : Cw l E cc nL own fr lo kc ks ω) {i : Nat} {x : Int64} (j : Nat) (hd : decode cc pc = .ok (.lload i, 2)) (hj : lv[j]? = some (i, .long x)) (k : ω ws lv (.long x :: st) (pc + 2)) : ω ws lv st pc := by
  obtain ⟨p, e, R, s, m, args, below, meth, c, A, Q, hx, hb, hml, hown, hts, hK, hA, hG, hfr, hlo, hkc, hks, rfl⟩ := C
  intro H locs ls hP hD hS hl
  exact lv_lload hx hb hd (lv_at hl j hj) (k H locs ls hP hD hS hl)
theorem r_lstore_n (C : Cw l E cc nL own fr lo kc ks ω) {k9 : Fin 4} {i : Nat} {x : Int64} {lv' : List (Nat × Value)} (hd : decode cc pc = .ok (.lstore_n k9, 1)) (hi : (k9 : Nat) = i) (hn : i + 1 < nL) (he : (i, Value.long x) :: lv.filter (fun q => !(q.1 == i) && (!(q.1 == i + 1) && !(q.1 + 1 == i && q.2.category == 2))) = lv') (k : ω ws lv' st (pc + 1)) : ω ws lv (.long x :: st) pc := by
  obtain ⟨p, e, R, s, m, args, below, meth, c, A, Q, hx, hb, hml, hown, hts, hK, hA, hG, hfr, hlo, hkc, hks, rfl⟩ := C
  intro H locs ls hP hD hS hl
  exact lv_lstore_n hx hb hd hi hl hn he (fun ls' hl' => k H locs ls' hP hD hS hl')
theorem r_lstore (C : Cw l E cc nL own fr lo kc ks ω) {i : Nat} {x : Int64} {lv' : List (Nat × Value)} (hd : decode cc pc = .ok (.lstore i, 2)) (hn : i + 1 < nL) (he : (i, Value.long x) :: lv.filter (fun q => !(q.1 == i) && (!(q.1 == i + 1) && !(q.1 + 1 == i && q.2.category == 2))) = lv') (k : ω ws lv' st (pc + 2)) : ω ws lv (.long x :: st) pc := by
  obtain ⟨p, e, R, s, m, args, below, meth, c, A, Q, hx, hb, hml, hown, hts, hK, hA, hG, hfr, hlo, hkc, hks, rfl⟩ := C
  intro H locs ls hP hD hS hl
  exact lv_lstore hx hb hd hl hn he (fun ls' hl' => k H locs ls' hP hD hS hl')
theorem r_aload_n (C : Cw l E cc nL own fr lo kc ks ω) {k9 : Fin 4} {i : Nat} {x : Nat} (j : Nat) (hd : decode cc pc = .ok (.aload_n k9, 1)) (hi : (k9 : Nat) = i) (hj : lv[j]? = some (i, .ref x)) (k : ω ws lv (.ref x :: st) (pc + 1)) : ω ws lv st pc := by
  obtain ⟨p, e, R, s, m, args, below, meth, c, A, Q, hx, hb, hml, hown, hts, hK, hA, hG, hfr, hlo, hkc, hks, rfl⟩ := C
  intro H locs ls hP hD hS hl
  exact lv_aload_n hx hb hd hi (lv_at hl j hj) (k H locs ls hP hD hS hl)
theorem r_aload (C : Cw l E cc nL own fr lo kc ks ω) {i : Nat} {x : Nat} (j : Nat) (hd : decode cc pc = .ok (.aload i, 2)) (hj : lv[j]? = some (i, .ref x)) (k : ω ws lv (.ref x :: st) (pc + 2)) : ω ws lv st pc := by
  obtain ⟨p, e, R, s, m, args, below, meth, c, A, Q, hx, hb, hml, hown, hts, hK, hA, hG, hfr, hlo, hkc, hks, rfl⟩ := C
  intro H locs ls hP hD hS hl
  exact lv_aload hx hb hd (lv_at hl j hj) (k H locs ls hP hD hS hl)
theorem r_astore_n (C : Cw l E cc nL own fr lo kc ks ω) {k9 : Fin 4} {i : Nat} {x : Nat} {lv' : List (Nat × Value)} (hd : decode cc pc = .ok (.astore_n k9, 1)) (hi : (k9 : Nat) = i) (hn : i < nL) (he : (i, Value.ref x) :: lv.filter (fun q => !(q.1 == i) && !(q.1 + 1 == i && q.2.category == 2)) = lv') (k : ω ws lv' st (pc + 1)) : ω ws lv (.ref x :: st) pc := by
  obtain ⟨p, e, R, s, m, args, below, meth, c, A, Q, hx, hb, hml, hown, hts, hK, hA, hG, hfr, hlo, hkc, hks, rfl⟩ := C
  intro H locs ls hP hD hS hl
  exact lv_astore_n hx hb hd hi hl hn he (fun ls' hl' => k H locs ls' hP hD hS hl')
theorem r_astore (C : Cw l E cc nL own fr lo kc ks ω) {i : Nat} {x : Nat} {lv' : List (Nat × Value)} (hd : decode cc pc = .ok (.astore i, 2)) (hn : i < nL) (he : (i, Value.ref x) :: lv.filter (fun q => !(q.1 == i) && !(q.1 + 1 == i && q.2.category == 2)) = lv') (k : ω ws lv' st (pc + 2)) : ω ws lv (.ref x :: st) pc := by
  obtain ⟨p, e, R, s, m, args, below, meth, c, A, Q, hx, hb, hml, hown, hts, hK, hA, hG, hfr, hlo, hkc, hks, rfl⟩ := C
  intro H locs ls hP hD hS hl
  exact lv_astore hx hb hd hl hn he (fun ls' hl' => k H locs ls' hP hD hS hl')
theorem r_iinc (C : Cw l E cc nL own fr lo kc ks ω) {i : Nat} {n : Int} {x v : Int32} {lv' : List (Nat × Value)} (j : Nat) (hd : decode cc pc = .ok (.iinc i n, 3)) (hj : lv[j]? = some (i, .int x)) (hv : x + Int32.ofInt n = v) (hn : i < nL) (he : (i, Value.int v) :: lv.filter (fun q => !(q.1 == i) && !(q.1 + 1 == i && q.2.category == 2)) = lv') (k : ω ws lv' st (pc + 3)) : ω ws lv st pc := by
  obtain ⟨p, e, R, s, m, args, below, meth, c, A, Q, hx, hb, hml, hown, hts, hK, hA, hG, hfr, hlo, hkc, hks, rfl⟩ := C
  intro H locs ls hP hD hS hl
  exact lv_iinc hx hb hd hl hj hv hn he (fun ls' hl' => k H locs ls' hP hD hS hl')
theorem r_lv (C : Cw l E cc nL own fr lo kc ks ω) {lv' : List (Nat × Value)} (js : List Nat) (hj : lv_pick lv js = lv') (k : ω ws lv' st pc) : ω ws lv st pc := by
  obtain ⟨p, e, R, s, m, args, below, meth, c, A, Q, hx, hb, hml, hown, hts, hK, hA, hG, hfr, hlo, hkc, hks, rfl⟩ := C
  intro H locs ls hP hD hS hl
  exact k H locs ls hP hD hS (lv_sub hl js hj)
theorem r_iadd (C : Cw l E cc nL own fr lo kc ks ω) {x y : Int32} {v : Int32} (hd : decode cc pc = .ok (.iadd, 1)) (hv : x + y = v) (k : ω ws lv (.int v :: st) (pc + 1)) : ω ws lv (.int y :: .int x :: st) pc := by
  obtain ⟨p, e, R, s, m, args, below, meth, c, A, Q, hx, hb, hml, hown, hts, hK, hA, hG, hfr, hlo, hkc, hks, rfl⟩ := C
  intro H locs ls hP hD hS hl
  subst hv
  exact lv_iadd hx hb hd (k H locs ls hP hD hS hl)
theorem r_isub (C : Cw l E cc nL own fr lo kc ks ω) {x y : Int32} {v : Int32} (hd : decode cc pc = .ok (.isub, 1)) (hv : x - y = v) (k : ω ws lv (.int v :: st) (pc + 1)) : ω ws lv (.int y :: .int x :: st) pc := by
  obtain ⟨p, e, R, s, m, args, below, meth, c, A, Q, hx, hb, hml, hown, hts, hK, hA, hG, hfr, hlo, hkc, hks, rfl⟩ := C
  intro H locs ls hP hD hS hl
  subst hv
  exact lv_isub hx hb hd (k H locs ls hP hD hS hl)
theorem r_imul (C : Cw l E cc nL own fr lo kc ks ω) {x y : Int32} {v : Int32} (hd : decode cc pc = .ok (.imul, 1)) (hv : x * y = v) (k : ω ws lv (.int v :: st) (pc + 1)) : ω ws lv (.int y :: .int x :: st) pc := by
  obtain ⟨p, e, R, s, m, args, below, meth, c, A, Q, hx, hb, hml, hown, hts, hK, hA, hG, hfr, hlo, hkc, hks, rfl⟩ := C
  intro H locs ls hP hD hS hl
  subst hv
  exact lv_imul hx hb hd (k H locs ls hP hD hS hl)
theorem r_iand (C : Cw l E cc nL own fr lo kc ks ω) {x y : Int32} {v : Int32} (hd : decode cc pc = .ok (.iand, 1)) (hv : x &&& y = v) (k : ω ws lv (.int v :: st) (pc + 1)) : ω ws lv (.int y :: .int x :: st) pc := by
  obtain ⟨p, e, R, s, m, args, below, meth, c, A, Q, hx, hb, hml, hown, hts, hK, hA, hG, hfr, hlo, hkc, hks, rfl⟩ := C
  intro H locs ls hP hD hS hl
  subst hv
  exact lv_iand hx hb hd (k H locs ls hP hD hS hl)
theorem r_ior (C : Cw l E cc nL own fr lo kc ks ω) {x y : Int32} {v : Int32} (hd : decode cc pc = .ok (.ior, 1)) (hv : x ||| y = v) (k : ω ws lv (.int v :: st) (pc + 1)) : ω ws lv (.int y :: .int x :: st) pc := by
  obtain ⟨p, e, R, s, m, args, below, meth, c, A, Q, hx, hb, hml, hown, hts, hK, hA, hG, hfr, hlo, hkc, hks, rfl⟩ := C
  intro H locs ls hP hD hS hl
  subst hv
  exact lv_ior hx hb hd (k H locs ls hP hD hS hl)
theorem r_ixor (C : Cw l E cc nL own fr lo kc ks ω) {x y : Int32} {v : Int32} (hd : decode cc pc = .ok (.ixor, 1)) (hv : x ^^^ y = v) (k : ω ws lv (.int v :: st) (pc + 1)) : ω ws lv (.int y :: .int x :: st) pc := by
  obtain ⟨p, e, R, s, m, args, below, meth, c, A, Q, hx, hb, hml, hown, hts, hK, hA, hG, hfr, hlo, hkc, hks, rfl⟩ := C
  intro H locs ls hP hD hS hl
  subst hv
  exact lv_ixor hx hb hd (k H locs ls hP hD hS hl)
theorem r_ishl (C : Cw l E cc nL own fr lo kc ks ω) {x y : Int32} {v : Int32} (hd : decode cc pc = .ok (.ishl, 1)) (hv : x <<< (y &&& 31) = v) (k : ω ws lv (.int v :: st) (pc + 1)) : ω ws lv (.int y :: .int x :: st) pc := by
  obtain ⟨p, e, R, s, m, args, below, meth, c, A, Q, hx, hb, hml, hown, hts, hK, hA, hG, hfr, hlo, hkc, hks, rfl⟩ := C
  intro H locs ls hP hD hS hl
  subst hv
  exact lv_ishl hx hb hd (k H locs ls hP hD hS hl)
theorem r_ishr (C : Cw l E cc nL own fr lo kc ks ω) {x y : Int32} {v : Int32} (hd : decode cc pc = .ok (.ishr, 1)) (hv : x >>> (y &&& 31) = v) (k : ω ws lv (.int v :: st) (pc + 1)) : ω ws lv (.int y :: .int x :: st) pc := by
  obtain ⟨p, e, R, s, m, args, below, meth, c, A, Q, hx, hb, hml, hown, hts, hK, hA, hG, hfr, hlo, hkc, hks, rfl⟩ := C
  intro H locs ls hP hD hS hl
  subst hv
  exact lv_ishr hx hb hd (k H locs ls hP hD hS hl)
theorem r_idiv (C : Cw l E cc nL own fr lo kc ks ω) {x y : Int32} {v : Int32} (hd : decode cc pc = .ok (.idiv, 1)) (hne : ¬ y = 0) (hv : x / y = v) (k : ω ws lv (.int v :: st) (pc + 1)) : ω ws lv (.int y :: .int x :: st) pc := by
  obtain ⟨p, e, R, s, m, args, below, meth, c, A, Q, hx, hb, hml, hown, hts, hK, hA, hG, hfr, hlo, hkc, hks, rfl⟩ := C
  intro H locs ls hP hD hS hl
  subst hv
  exact lv_idiv hx hb hd hne (k H locs ls hP hD hS hl)
theorem r_irem (C : Cw l E cc nL own fr lo kc ks ω) {x y : Int32} {v : Int32} (hd : decode cc pc = .ok (.irem, 1)) (hne : ¬ y = 0) (hv : x - x / y * y = v) (k : ω ws lv (.int v :: st) (pc + 1)) : ω ws lv (.int y :: .int x :: st) pc := by
  obtain ⟨p, e, R, s, m, args, below, meth, c, A, Q, hx, hb, hml, hown, hts, hK, hA, hG, hfr, hlo, hkc, hks, rfl⟩ := C
  intro H locs ls hP hD hS hl
  subst hv
  exact lv_irem hx hb hd hne (k H locs ls hP hD hS hl)
theorem r_iushr (C : Cw l E cc nL own fr lo kc ks ω) {x y v : Int32} (hd : decode cc pc = .ok (.iushr, 1)) (hv : (x.toUInt32 >>> (y.toUInt32 &&& Int32.toUInt32 31)).toInt32 = v) (k : ω ws lv (.int v :: st) (pc + 1)) : ω ws lv (.int y :: .int x :: st) pc := by
  obtain ⟨p, e, R, s, m, args, below, meth, c, A, Q, hx, hb, hml, hown, hts, hK, hA, hG, hfr, hlo, hkc, hks, rfl⟩ := C
  intro H locs ls hP hD hS hl
  exact lv_iushr hx hb hd hv (k H locs ls hP hD hS hl)
theorem r_ladd (C : Cw l E cc nL own fr lo kc ks ω) {x y v : Int64} (hd : decode cc pc = .ok (.ladd, 1)) (hv : x + y = v) (k : ω ws lv (.long v :: st) (pc + 1)) : ω ws lv (.long y :: .long x :: st) pc := by
  obtain ⟨p, e, R, s, m, args, below, meth, c, A, Q, hx, hb, hml, hown, hts, hK, hA, hG, hfr, hlo, hkc, hks, rfl⟩ := C
  intro H locs ls hP hD hS hl
  subst hv
  exact lv_ladd hx hb hd (k H locs ls hP hD hS hl)
theorem r_lsub (C : Cw l E cc nL own fr lo kc ks ω) {x y v : Int64} (hd : decode cc pc = .ok (.lsub, 1)) (hv : x - y = v) (k : ω ws lv (.long v :: st) (pc + 1)) : ω ws lv (.long y :: .long x :: st) pc := by
  obtain ⟨p, e, R, s, m, args, below, meth, c, A, Q, hx, hb, hml, hown, hts, hK, hA, hG, hfr, hlo, hkc, hks, rfl⟩ := C
  intro H locs ls hP hD hS hl
  subst hv
  exact lv_lsub hx hb hd (k H locs ls hP hD hS hl)
theorem r_lmul (C : Cw l E cc nL own fr lo kc ks ω) {x y v : Int64} (hd : decode cc pc = .ok (.lmul, 1)) (hv : x * y = v) (k : ω ws lv (.long v :: st) (pc + 1)) : ω ws lv (.long y :: .long x :: st) pc := by
  obtain ⟨p, e, R, s, m, args, below, meth, c, A, Q, hx, hb, hml, hown, hts, hK, hA, hG, hfr, hlo, hkc, hks, rfl⟩ := C
  intro H locs ls hP hD hS hl
  subst hv
  exact lv_lmul hx hb hd (k H locs ls hP hD hS hl)
theorem r_land (C : Cw l E cc nL own fr lo kc ks ω) {x y v : Int64} (hd : decode cc pc = .ok (.land, 1)) (hv : x &&& y = v) (k : ω ws lv (.long v :: st) (pc + 1)) : ω ws lv (.long y :: .long x :: st) pc := by
  obtain ⟨p, e, R, s, m, args, below, meth, c, A, Q, hx, hb, hml, hown, hts, hK, hA, hG, hfr, hlo, hkc, hks, rfl⟩ := C
  intro H locs ls hP hD hS hl
  subst hv
  exact lv_land hx hb hd (k H locs ls hP hD hS hl)
theorem r_lor (C : Cw l E cc nL own fr lo kc ks ω) {x y v : Int64} (hd : decode cc pc = .ok (.lor, 1)) (hv : x ||| y = v) (k : ω ws lv (.long v :: st) (pc + 1)) : ω ws lv (.long y :: .long x :: st) pc := by
  obtain ⟨p, e, R, s, m, args, below, meth, c, A, Q, hx, hb, hml, hown, hts, hK, hA, hG, hfr, hlo, hkc, hks, rfl⟩ := C
  intro H locs ls hP hD hS hl
  subst hv
  exact lv_lor hx hb hd (k H locs ls hP hD hS hl)
theorem r_lxor (C : Cw l E cc nL own fr lo kc ks ω) {x y v : Int64} (hd : decode cc pc = .ok (.lxor, 1)) (hv : x ^^^ y = v) (k : ω ws lv (.long v :: st) (pc + 1)) : ω ws lv (.long y :: .long x :: st) pc := by
  obtain ⟨p, e, R, s, m, args, below, meth, c, A, Q, hx, hb, hml, hown, hts, hK, hA, hG, hfr, hlo, hkc, hks, rfl⟩ := C
  intro H locs ls hP hD hS hl
  subst hv
  exact lv_lxor hx hb hd (k H locs ls hP hD hS hl)
theorem r_ldiv (C : Cw l E cc nL own fr lo kc ks ω) {x y v : Int64} (hd : decode cc pc = .ok (.ldiv, 1)) (hne : ¬ y = 0) (hv : x / y = v) (k : ω ws lv (.long v :: st) (pc + 1)) : ω ws lv (.long y :: .long x :: st) pc := by
  obtain ⟨p, e, R, s, m, args, below, meth, c, A, Q, hx, hb, hml, hown, hts, hK, hA, hG, hfr, hlo, hkc, hks, rfl⟩ := C
  intro H locs ls hP hD hS hl
  subst hv
  exact lv_ldiv hx hb hd hne (k H locs ls hP hD hS hl)
theorem r_lrem (C : Cw l E cc nL own fr lo kc ks ω) {x y v : Int64} (hd : decode cc pc = .ok (.lrem, 1)) (hne : ¬ y = 0) (hv : x - x / y * y = v) (k : ω ws lv (.long v :: st) (pc + 1)) : ω ws lv (.long y :: .long x :: st) pc := by
  obtain ⟨p, e, R, s, m, args, below, meth, c, A, Q, hx, hb, hml, hown, hts, hK, hA, hG, hfr, hlo, hkc, hks, rfl⟩ := C
  intro H locs ls hP hD hS hl
  subst hv
  exact lv_lrem hx hb hd hne (k H locs ls hP hD hS hl)
theorem r_lcmp (C : Cw l E cc nL own fr lo kc ks ω) {x y : Int64} {v : Int32} (hd : decode cc pc = .ok (.lcmp, 1)) (hv : lg_cmp x y = v) (k : ω ws lv (.int v :: st) (pc + 1)) : ω ws lv (.long y :: .long x :: st) pc := by
  obtain ⟨p, e, R, s, m, args, below, meth, c, A, Q, hx, hb, hml, hown, hts, hK, hA, hG, hfr, hlo, hkc, hks, rfl⟩ := C
  intro H locs ls hP hD hS hl
  subst hv
  exact W.lcmp hx hb hd (k H locs ls hP hD hS hl)
theorem r_i2l (C : Cw l E cc nL own fr lo kc ks ω) {x : Int32} {v : Int64} (hd : decode cc pc = .ok (.i2l, 1)) (hv : x.toInt64 = v) (k : ω ws lv (.long v :: st) (pc + 1)) : ω ws lv (.int x :: st) pc := by
  obtain ⟨p, e, R, s, m, args, below, meth, c, A, Q, hx, hb, hml, hown, hts, hK, hA, hG, hfr, hlo, hkc, hks, rfl⟩ := C
  intro H locs ls hP hD hS hl
  exact lv_i2l hx hb hd hv (k H locs ls hP hD hS hl)
theorem r_l2i (C : Cw l E cc nL own fr lo kc ks ω) {x : Int64} {v : Int32} (hd : decode cc pc = .ok (.l2i, 1)) (hv : x.toInt32 = v) (k : ω ws lv (.int v :: st) (pc + 1)) : ω ws lv (.long x :: st) pc := by
  obtain ⟨p, e, R, s, m, args, below, meth, c, A, Q, hx, hb, hml, hown, hts, hK, hA, hG, hfr, hlo, hkc, hks, rfl⟩ := C
  intro H locs ls hP hD hS hl
  exact lv_l2i hx hb hd hv (k H locs ls hP hD hS hl)
theorem r_lushr (C : Cw l E cc nL own fr lo kc ks ω) {x v : Int64} {y : Int32} (hd : decode cc pc = .ok (.lushr, 1)) (hv : (x.toUInt64 >>> (y.toInt64.toUInt64 &&& Int64.toUInt64 63)).toInt64 = v) (k : ω ws lv (.long v :: st) (pc + 1)) : ω ws lv (.int y :: .long x :: st) pc := by
  obtain ⟨p, e, R, s, m, args, below, meth, c, A, Q, hx, hb, hml, hown, hts, hK, hA, hG, hfr, hlo, hkc, hks, rfl⟩ := C
  intro H locs ls hP hD hS hl
  exact lv_lushr hx hb hd hv (k H locs ls hP hD hS hl)
theorem r_lshl (C : Cw l E cc nL own fr lo kc ks ω) {x v : Int64} {y : Int32} (hd : decode cc pc = .ok (.lshl, 1)) (hv : x <<< (y.toInt64 &&& 63) = v) (k : ω ws lv (.long v :: st) (pc + 1)) : ω ws lv (.int y :: .long x :: st) pc := by
  obtain ⟨p, e, R, s, m, args, below, meth, c, A, Q, hx, hb, hml, hown, hts, hK, hA, hG, hfr, hlo, hkc, hks, rfl⟩ := C
  intro H locs ls hP hD hS hl
  exact lv_lshl hx hb hd hv (k H locs ls hP hD hS hl)
theorem r_dup (C : Cw l E cc nL own fr lo kc ks ω) {va : Value} (hd : decode cc pc = .ok (.dup, 1)) (hc : va.category = 1) (k : ω ws lv (va :: va :: st) (pc + 1)) : ω ws lv (va :: st) pc := by
  obtain ⟨p, e, R, s, m, args, below, meth, c, A, Q, hx, hb, hml, hown, hts, hK, hA, hG, hfr, hlo, hkc, hks, rfl⟩ := C
  intro H locs ls hP hD hS hl
  exact lv_dup hx hb hd hc (k H locs ls hP hD hS hl)
theorem r_dup2 (C : Cw l E cc nL own fr lo kc ks ω) {va vb : Value} (hd : decode cc pc = .ok (.dup2, 1)) (hc : va.category = 1) (hc2 : vb.category = 1) (k : ω ws lv (va :: vb :: va :: vb :: st) (pc + 1)) : ω ws lv (va :: vb :: st) pc := by
  obtain ⟨p, e, R, s, m, args, below, meth, c, A, Q, hx, hb, hml, hown, hts, hK, hA, hG, hfr, hlo, hkc, hks, rfl⟩ := C
  intro H locs ls hP hD hS hl
  exact lv_dup2_11 hx hb hd hc hc2 (k H locs ls hP hD hS hl)
theorem r_pop (C : Cw l E cc nL own fr lo kc ks ω) {va : Value} (hd : decode cc pc = .ok (.pop, 1)) (hc : va.category = 1) (k : ω ws lv st (pc + 1)) : ω ws lv (va :: st) pc := by
  obtain ⟨p, e, R, s, m, args, below, meth, c, A, Q, hx, hb, hml, hown, hts, hK, hA, hG, hfr, hlo, hkc, hks, rfl⟩ := C
  intro H locs ls hP hD hS hl
  exact lv_pop hx hb hd hc (k H locs ls hP hD hS hl)
theorem r_if_eq (C : Cw l E cc nL own fr lo kc ks ω) {x y : Int32} {off : Int} (tgt : Nat) {c9 : Prop} (hd : decode cc pc = .ok (.ifCond .eq off, 3)) (ht : (pc : Int) + off = (tgt : Int)) (hc : (x = 0) ↔ c9) (kt : c9 → ω ws lv st tgt) (kf : ¬ c9 → ω ws lv st (pc + 3)) : ω ws lv (.int x :: st) pc := by
  obtain ⟨p, e, R, s, m, args, below, meth, c, A, Q, hx, hb, hml, hown, hts, hK, hA, hG, hfr, hlo, hkc, hks, rfl⟩ := C
  intro H locs ls hP hD hS hl
  exact lv_if_eq hx hb hd ht (fun h => kt (hc.mp h) H locs ls hP hD hS hl) (fun h => kf (fun z => h (hc.mpr z)) H locs ls hP hD hS hl)
theorem r_if_eqT (C : Cw l E cc nL own fr lo kc ks ω) {x y : Int32} {off : Int} (tgt : Nat) (hd : decode cc pc = .ok (.ifCond .eq off, 3)) (ht : (pc : Int) + off = (tgt : Int)) (hc : x = 0) (kt : ω ws lv st tgt) : ω ws lv (.int x :: st) pc := by
  obtain ⟨p, e, R, s, m, args, below, meth, c, A, Q, hx, hb, hml, hown, hts, hK, hA, hG, hfr, hlo, hkc, hks, rfl⟩ := C
  intro H locs ls hP hD hS hl
  exact lv_if_eq hx hb hd ht (fun h => kt H locs ls hP hD hS hl) (fun h => absurd hc h)
theorem r_if_eqF (C : Cw l E cc nL own fr lo kc ks ω) {x y : Int32} {off : Int} (hd : decode cc pc = .ok (.ifCond .eq off, 3)) {tgt : Nat} (ht : (pc : Int) + off = (tgt : Int)) (hc : ¬ (x = 0)) (kf : ω ws lv st (pc + 3)) : ω ws lv (.int x :: st) pc := by
  obtain ⟨p, e, R, s, m, args, below, meth, c, A, Q, hx, hb, hml, hown, hts, hK, hA, hG, hfr, hlo, hkc, hks, rfl⟩ := C
  intro H locs ls hP hD hS hl
  exact lv_if_eq hx hb hd ht (fun h => absurd h hc) (fun h => kf H locs ls hP hD hS hl)
theorem r_icmp_eq (C : Cw l E cc nL own fr lo kc ks ω) {x y : Int32} {off : Int} (tgt : Nat) {c9 : Prop} (hd : decode cc pc = .ok (.if_icmp .eq off, 3)) (ht : (pc : Int) + off = (tgt : Int)) (hc : (x = y) ↔ c9) (kt : c9 → ω ws lv st tgt) (kf : ¬ c9 → ω ws lv st (pc + 3)) : ω ws lv (.int y :: .int x :: st) pc := by
  obtain ⟨p, e, R, s, m, args, below, meth, c, A, Q, hx, hb, hml, hown, hts, hK, hA, hG, hfr, hlo, hkc, hks, rfl⟩ := C
  intro H locs ls hP hD hS hl
  exact lv_icmp_eq hx hb hd ht (fun h => kt (hc.mp h) H locs ls hP hD hS hl) (fun h => kf (fun z => h (hc.mpr z)) H locs ls hP hD hS hl)
theorem r_icmp_eqT (C : Cw l E cc nL own fr lo kc ks ω) {x y : Int32} {off : Int} (tgt : Nat) (hd : decode cc pc = .ok (.if_icmp .eq off, 3)) (ht : (pc : Int) + off = (tgt : Int)) (hc : x = y) (kt : ω ws lv st tgt) : ω ws lv (.int y :: .int x :: st) pc := by
  obtain ⟨p, e, R, s, m, args, below, meth, c, A, Q, hx, hb, hml, hown, hts, hK, hA, hG, hfr, hlo, hkc, hks, rfl⟩ := C
  intro H locs ls hP hD hS hl
  exact lv_icmp_eq hx hb hd ht (fun h => kt H locs ls hP hD hS hl) (fun h => absurd hc h)
theorem r_icmp_eqF (C : Cw l E cc nL own fr lo kc ks ω) {x y : Int32} {off : Int} (hd : decode cc pc = .ok (.if_icmp .eq off, 3)) {tgt : Nat} (ht : (pc : Int) + off = (tgt : Int)) (hc : ¬ (x = y)) (kf : ω ws lv st (pc + 3)) : ω ws lv (.int y :: .int x :: st) pc := by
  obtain ⟨p, e, R, s, m, args, below, meth, c, A, Q, hx, hb, hml, hown, hts, hK, hA, hG, hfr, hlo, hkc, hks, rfl⟩ := C
  intro H locs ls hP hD hS hl
  exact lv_icmp_eq hx hb hd ht (fun h => absurd h hc) (fun h => kf H locs ls hP hD hS hl)
theorem r_if_ne (C : Cw l E cc nL own fr lo kc ks ω) {x y : Int32} {off : Int} (tgt : Nat) {c9 : Prop} (hd : decode cc pc = .ok (.ifCond .ne off, 3)) (ht : (pc : Int) + off = (tgt : Int)) (hc : (x ≠ 0) ↔ c9) (kt : c9 → ω ws lv st tgt) (kf : ¬ c9 → ω ws lv st (pc + 3)) : ω ws lv (.int x :: st) pc := by
  obtain ⟨p, e, R, s, m, args, below, meth, c, A, Q, hx, hb, hml, hown, hts, hK, hA, hG, hfr, hlo, hkc, hks, rfl⟩ := C
  intro H locs ls hP hD hS hl
  exact lv_if_ne hx hb hd ht (fun h => kt (hc.mp h) H locs ls hP hD hS hl) (fun h => kf (fun z => (hc.mpr z) h) H locs ls hP hD hS hl)
theorem r_if_neT (C : Cw l E cc nL own fr lo kc ks ω) {x y : Int32} {off : Int} (tgt : Nat) (hd : decode cc pc = .ok (.ifCond .ne off, 3)) (ht : (pc : Int) + off = (tgt : Int)) (hc : x ≠ 0) (kt : ω ws lv st tgt) : ω ws lv (.int x :: st) pc := by
  obtain ⟨p, e, R, s, m, args, below, meth, c, A, Q, hx, hb, hml, hown, hts, hK, hA, hG, hfr, hlo, hkc, hks, rfl⟩ := C
  intro H locs ls hP hD hS hl
  exact lv_if_ne hx hb hd ht (fun h => kt H locs ls hP hD hS hl) (fun h => absurd h hc)
theorem r_if_neF (C : Cw l E cc nL own fr lo kc ks ω) {x y : Int32} {off : Int} (hd : decode cc pc = .ok (.ifCond .ne off, 3)) {tgt : Nat} (ht : (pc : Int) + off = (tgt : Int)) (hc : ¬ (x ≠ 0)) (kf : ω ws lv st (pc + 3)) : ω ws lv (.int x :: st) pc := by
  obtain ⟨p, e, R, s, m, args, below, meth, c, A, Q, hx, hb, hml, hown, hts, hK, hA, hG, hfr, hlo, hkc, hks, rfl⟩ := C
  intro H locs ls hP hD hS hl
  exact lv_if_ne hx hb hd ht (fun h => absurd h hc) (fun h => kf H locs ls hP hD hS hl)
theorem r_icmp_ne (C : Cw l E cc nL own fr lo kc ks ω) {x y : Int32} {off : Int} (tgt : Nat) {c9 : Prop} (hd : decode cc pc = .ok (.if_icmp .ne off, 3)) (ht : (pc : Int) + off = (tgt : Int)) (hc : (x ≠ y) ↔ c9) (kt : c9 → ω ws lv st tgt) (kf : ¬ c9 → ω ws lv st (pc + 3)) : ω ws lv (.int y :: .int x :: st) pc := by
  obtain ⟨p, e, R, s, m, args, below, meth, c, A, Q, hx, hb, hml, hown, hts, hK, hA, hG, hfr, hlo, hkc, hks, rfl⟩ := C
  intro H locs ls hP hD hS hl
  exact lv_icmp_ne hx hb hd ht (fun h => kt (hc.mp h) H locs ls hP hD hS hl) (fun h => kf (fun z => (hc.mpr z) h) H locs ls hP hD hS hl)
theorem r_icmp_neT (C : Cw l E cc nL own fr lo kc ks ω) {x y : Int32} {off : Int} (tgt : Nat) (hd : decode cc pc = .ok (.if_icmp .ne off, 3)) (ht : (pc : Int) + off = (tgt : Int)) (hc : x ≠ y) (kt : ω ws lv st tgt) : ω ws lv (.int y :: .int x :: st) pc := by
  obtain ⟨p, e, R, s, m, args, below, meth, c, A, Q, hx, hb, hml, hown, hts, hK, hA, hG, hfr, hlo, hkc, hks, rfl⟩ := C
  intro H locs ls hP hD hS hl
  exact lv_icmp_ne hx hb hd ht (fun h => kt H locs ls hP hD hS hl) (fun h => absurd h hc)
theorem r_icmp_neF (C : Cw l E cc nL own fr lo kc ks ω) {x y : Int32} {off : Int} (hd : decode cc pc = .ok (.if_icmp .ne off, 3)) {tgt : Nat} (ht : (pc : Int) + off = (tgt : Int)) (hc : ¬ (x ≠ y)) (kf : ω ws lv st (pc + 3)) : ω ws lv (.int y :: .int x :: st) pc := by
  obtain ⟨p, e, R, s, m, args, below, meth, c, A, Q, hx, hb, hml, hown, hts, hK, hA, hG, hfr, hlo, hkc, hks, rfl⟩ := C
  intro H locs ls hP hD hS hl
  exact lv_icmp_ne hx hb hd ht (fun h => absurd h hc) (fun h => kf H locs ls hP hD hS hl)
theorem r_if_lt (C : Cw l E cc nL own fr lo kc ks ω) {x y : Int32} {off : Int} (tgt : Nat) {c9 : Prop} (hd : decode cc pc = .ok (.ifCond .lt off, 3)) (ht : (pc : Int) + off = (tgt : Int)) (hc : (x < 0) ↔ c9) (kt : c9 → ω ws lv st tgt) (kf : ¬ c9 → ω ws lv st (pc + 3)) : ω ws lv (.int x :: st) pc := by
  obtain ⟨p, e, R, s, m, args, below, meth, c, A, Q, hx, hb, hml, hown, hts, hK, hA, hG, hfr, hlo, hkc, hks, rfl⟩ := C
  intro H locs ls hP hD hS hl
  exact lv_if_lt hx hb hd ht (fun h => kt (hc.mp h) H locs ls hP hD hS hl) (fun h => kf (fun z => h (hc.mpr z)) H locs ls hP hD hS hl)
theorem r_if_ltT (C : Cw l E cc nL own fr lo kc ks ω) {x y : Int32} {off : Int} (tgt : Nat) (hd : decode cc pc = .ok (.ifCond .lt off, 3)) (ht : (pc : Int) + off = (tgt : Int)) (hc : x < 0) (kt : ω ws lv st tgt) : ω ws lv (.int x :: st) pc := by
  obtain ⟨p, e, R, s, m, args, below, meth, c, A, Q, hx, hb, hml, hown, hts, hK, hA, hG, hfr, hlo, hkc, hks, rfl⟩ := C
  intro H locs ls hP hD hS hl
  exact lv_if_lt hx hb hd ht (fun h => kt H locs ls hP hD hS hl) (fun h => absurd hc h)
theorem r_if_ltF (C : Cw l E cc nL own fr lo kc ks ω) {x y : Int32} {off : Int} (hd : decode cc pc = .ok (.ifCond .lt off, 3)) {tgt : Nat} (ht : (pc : Int) + off = (tgt : Int)) (hc : ¬ (x < 0)) (kf : ω ws lv st (pc + 3)) : ω ws lv (.int x :: st) pc := by
  obtain ⟨p, e, R, s, m, args, below, meth, c, A, Q, hx, hb, hml, hown, hts, hK, hA, hG, hfr, hlo, hkc, hks, rfl⟩ := C
  intro H locs ls hP hD hS hl
  exact lv_if_lt hx hb hd ht (fun h => absurd h hc) (fun h => kf H locs ls hP hD hS hl)
theorem r_icmp_lt (C : Cw l E cc nL own fr lo kc ks ω) {x y : Int32} {off : Int} (tgt : Nat) {c9 : Prop} (hd : decode cc pc = .ok (.if_icmp .lt off, 3)) (ht : (pc : Int) + off = (tgt : Int)) (hc : (x < y) ↔ c9) (kt : c9 → ω ws lv st tgt) (kf : ¬ c9 → ω ws lv st (pc + 3)) : ω ws lv (.int y :: .int x :: st) pc := by
  obtain ⟨p, e, R, s, m, args, below, meth, c, A, Q, hx, hb, hml, hown, hts, hK, hA, hG, hfr, hlo, hkc, hks, rfl⟩ := C
  intro H locs ls hP hD hS hl
  exact lv_icmp_lt hx hb hd ht (fun h => kt (hc.mp h) H locs ls hP hD hS hl) (fun h => kf (fun z => h (hc.mpr z)) H locs ls hP hD hS hl)
theorem r_icmp_ltT (C : Cw l E cc nL own fr lo kc ks ω) {x y : Int32} {off : Int} (tgt : Nat) (hd : decode cc pc = .ok (.if_icmp .lt off, 3)) (ht : (pc : Int) + off = (tgt : Int)) (hc : x < y) (kt : ω ws lv st tgt) : ω ws lv (.int y :: .int x :: st) pc := by
  obtain ⟨p, e, R, s, m, args, below, meth, c, A, Q, hx, hb, hml, hown, hts, hK, hA, hG, hfr, hlo, hkc, hks, rfl⟩ := C
  intro H locs ls hP hD hS hl
  exact lv_icmp_lt hx hb hd ht (fun h => kt H locs ls hP hD hS hl) (fun h => absurd hc h)
theorem r_icmp_ltF (C : Cw l E cc nL own fr lo kc ks ω) {x y : Int32} {off : Int} (hd : decode cc pc = .ok (.if_icmp .lt off, 3)) {tgt : Nat} (ht : (pc : Int) + off = (tgt : Int)) (hc : ¬ (x < y)) (kf : ω ws lv st (pc + 3)) : ω ws lv (.int y :: .int x :: st) pc := by
  obtain ⟨p, e, R, s, m, args, below, meth, c, A, Q, hx, hb, hml, hown, hts, hK, hA, hG, hfr, hlo, hkc, hks, rfl⟩ := C
  intro H locs ls hP hD hS hl
  exact lv_icmp_lt hx hb hd ht (fun h => absurd h hc) (fun h => kf H locs ls hP hD hS hl)
theorem r_if_ge (C : Cw l E cc nL own fr lo kc ks ω) {x y : Int32} {off : Int} (tgt : Nat) {c9 : Prop} (hd : decode cc pc = .ok (.ifCond .ge off, 3)) (ht : (pc : Int) + off = (tgt : Int)) (hc : (0 ≤ x) ↔ c9) (kt : c9 → ω ws lv st tgt) (kf : ¬ c9 → ω ws lv st (pc + 3)) : ω ws lv (.int x :: st) pc := by
  obtain ⟨p, e, R, s, m, args, below, meth, c, A, Q, hx, hb, hml, hown, hts, hK, hA, hG, hfr, hlo, hkc, hks, rfl⟩ := C
  intro H locs ls hP hD hS hl
  exact lv_if_ge hx hb hd ht (fun h => kt (hc.mp h) H locs ls hP hD hS hl) (fun h => kf (fun z => h (hc.mpr z)) H locs ls hP hD hS hl)
theorem r_if_geT (C : Cw l E cc nL own fr lo kc ks ω) {x y : Int32} {off : Int} (tgt : Nat) (hd : decode cc pc = .ok (.ifCond .ge off, 3)) (ht : (pc : Int) + off = (tgt : Int)) (hc : 0 ≤ x) (kt : ω ws lv st tgt) : ω ws lv (.int x :: st) pc := by
  obtain ⟨p, e, R, s, m, args, below, meth, c, A, Q, hx, hb, hml, hown, hts, hK, hA, hG, hfr, hlo, hkc, hks, rfl⟩ := C
  intro H locs ls hP hD hS hl
  exact lv_if_ge hx hb hd ht (fun h => kt H locs ls hP hD hS hl) (fun h => absurd hc h)
theorem r_if_geF (C : Cw l E cc nL own fr lo kc ks ω) {x y : Int32} {off : Int} (hd : decode cc pc = .ok (.ifCond .ge off, 3)) {tgt : Nat} (ht : (pc : Int) + off = (tgt : Int)) (hc : ¬ (0 ≤ x)) (kf : ω ws lv st (pc + 3)) : ω ws lv (.int x :: st) pc := by
  obtain ⟨p, e, R, s, m, args, below, meth, c, A, Q, hx, hb, hml, hown, hts, hK, hA, hG, hfr, hlo, hkc, hks, rfl⟩ := C
  intro H locs ls hP hD hS hl
  exact lv_if_ge hx hb hd ht (fun h => absurd h hc) (fun h => kf H locs ls hP hD hS hl)
theorem r_icmp_ge (C : Cw l E cc nL own fr lo kc ks ω) {x y : Int32} {off : Int} (tgt : Nat) {c9 : Prop} (hd : decode cc pc = .ok (.if_icmp .ge off, 3)) (ht : (pc : Int) + off = (tgt : Int)) (hc : (y ≤ x) ↔ c9) (kt : c9 → ω ws lv st tgt) (kf : ¬ c9 → ω ws lv st (pc + 3)) : ω ws lv (.int y :: .int x :: st) pc := by
  obtain ⟨p, e, R, s, m, args, below, meth, c, A, Q, hx, hb, hml, hown, hts, hK, hA, hG, hfr, hlo, hkc, hks, rfl⟩ := C
  intro H locs ls hP hD hS hl
  exact lv_icmp_ge hx hb hd ht (fun h => kt (hc.mp h) H locs ls hP hD hS hl) (fun h => kf (fun z => h (hc.mpr z)) H locs ls hP hD hS hl)
theorem r_icmp_geT (C : Cw l E cc nL own fr lo kc ks ω) {x y : Int32} {off : Int} (tgt : Nat) (hd : decode cc pc = .ok (.if_icmp .ge off, 3)) (ht : (pc : Int) + off = (tgt : Int)) (hc : y ≤ x) (kt : ω ws lv st tgt) : ω ws lv (.int y :: .int x :: st) pc := by
  obtain ⟨p, e, R, s, m, args, below, meth, c, A, Q, hx, hb, hml, hown, hts, hK, hA, hG, hfr, hlo, hkc, hks, rfl⟩ := C
  intro H locs ls hP hD hS hl
  exact lv_icmp_ge hx hb hd ht (fun h => kt H locs ls hP hD hS hl) (fun h => absurd hc h)
theorem r_icmp_geF (C : Cw l E cc nL own fr lo kc ks ω) {x y : Int32} {off : Int} (hd : decode cc pc = .ok (.if_icmp .ge off, 3)) {tgt : Nat} (ht : (pc : Int) + off = (tgt : Int)) (hc : ¬ (y ≤ x)) (kf : ω ws lv st (pc + 3)) : ω ws lv (.int y :: .int x :: st) pc := by
  obtain ⟨p, e, R, s, m, args, below, meth, c, A, Q, hx, hb, hml, hown, hts, hK, hA, hG, hfr, hlo, hkc, hks, rfl⟩ := C
  intro H locs ls hP hD hS hl
  exact lv_icmp_ge hx hb hd ht (fun h => absurd h hc) (fun h => kf H locs ls hP hD hS hl)
theorem r_if_gt (C : Cw l E cc nL own fr lo kc ks ω) {x y : Int32} {off : Int} (tgt : Nat) {c9 : Prop} (hd : decode cc pc = .ok (.ifCond .gt off, 3)) (ht : (pc : Int) + off = (tgt : Int)) (hc : (0 < x) ↔ c9) (kt : c9 → ω ws lv st tgt) (kf : ¬ c9 → ω ws lv st (pc + 3)) : ω ws lv (.int x :: st) pc := by
  obtain ⟨p, e, R, s, m, args, below, meth, c, A, Q, hx, hb, hml, hown, hts, hK, hA, hG, hfr, hlo, hkc, hks, rfl⟩ := C
  intro H locs ls hP hD hS hl
  exact lv_if_gt hx hb hd ht (fun h => kt (hc.mp h) H locs ls hP hD hS hl) (fun h => kf (fun z => h (hc.mpr z)) H locs ls hP hD hS hl)
theorem r_if_gtT (C : Cw l E cc nL own fr lo kc ks ω) {x y : Int32} {off : Int} (tgt : Nat) (hd : decode cc pc = .ok (.ifCond .gt off, 3)) (ht : (pc : Int) + off = (tgt : Int)) (hc : 0 < x) (kt : ω ws lv st tgt) : ω ws lv (.int x :: st) pc := by
  obtain ⟨p, e, R, s, m, args, below, meth, c, A, Q, hx, hb, hml, hown, hts, hK, hA, hG, hfr, hlo, hkc, hks, rfl⟩ := C
  intro H locs ls hP hD hS hl
  exact lv_if_gt hx hb hd ht (fun h => kt H locs ls hP hD hS hl) (fun h => absurd hc h)
theorem r_if_gtF (C : Cw l E cc nL own fr lo kc ks ω) {x y : Int32} {off : Int} (hd : decode cc pc = .ok (.ifCond .gt off, 3)) {tgt : Nat} (ht : (pc : Int) + off = (tgt : Int)) (hc : ¬ (0 < x)) (kf : ω ws lv st (pc + 3)) : ω ws lv (.int x :: st) pc := by
  obtain ⟨p, e, R, s, m, args, below, meth, c, A, Q, hx, hb, hml, hown, hts, hK, hA, hG, hfr, hlo, hkc, hks, rfl⟩ := C
  intro H locs ls hP hD hS hl
  exact lv_if_gt hx hb hd ht (fun h => absurd h hc) (fun h => kf H locs ls hP hD hS hl)
theorem r_icmp_gt (C : Cw l E cc nL own fr lo kc ks ω) {x y : Int32} {off : Int} (tgt : Nat) {c9 : Prop} (hd : decode cc pc = .ok (.if_icmp .gt off, 3)) (ht : (pc : Int) + off = (tgt : Int)) (hc : (y < x) ↔ c9) (kt : c9 → ω ws lv st tgt) (kf : ¬ c9 → ω ws lv st (pc + 3)) : ω ws lv (.int y :: .int x :: st) pc := by
  obtain ⟨p, e, R, s, m, args, below, meth, c, A, Q, hx, hb, hml, hown, hts, hK, hA, hG, hfr, hlo, hkc, hks, rfl⟩ := C
  intro H locs ls hP hD hS hl
  exact lv_icmp_gt hx hb hd ht (fun h => kt (hc.mp h) H locs ls hP hD hS hl) (fun h => kf (fun z => h (hc.mpr z)) H locs ls hP hD hS hl)
theorem r_icmp_gtT (C : Cw l E cc nL own fr lo kc ks ω) {x y : Int32} {off : Int} (tgt : Nat) (hd : decode cc pc = .ok (.if_icmp .gt off, 3)) (ht : (pc : Int) + off = (tgt : Int)) (hc : y < x) (kt : ω ws lv st tgt) : ω ws lv (.int y :: .int x :: st) pc := by
  obtain ⟨p, e, R, s, m, args, below, meth, c, A, Q, hx, hb, hml, hown, hts, hK, hA, hG, hfr, hlo, hkc, hks, rfl⟩ := C
  intro H locs ls hP hD hS hl
  exact lv_icmp_gt hx hb hd ht (fun h => kt H locs ls hP hD hS hl) (fun h => absurd hc h)
theorem r_icmp_gtF (C : Cw l E cc nL own fr lo kc ks ω) {x y : Int32} {off : Int} (hd : decode cc pc = .ok (.if_icmp .gt off, 3)) {tgt : Nat} (ht : (pc : Int) + off = (tgt : Int)) (hc : ¬ (y < x)) (kf : ω ws lv st (pc + 3)) : ω ws lv (.int y :: .int x :: st) pc := by
  obtain ⟨p, e, R, s, m, args, below, meth, c, A, Q, hx, hb, hml, hown, hts, hK, hA, hG, hfr, hlo, hkc, hks, rfl⟩ := C
  intro H locs ls hP hD hS hl
  exact lv_icmp_gt hx hb hd ht (fun h => absurd h hc) (fun h => kf H locs ls hP hD hS hl)
theorem r_if_le (C : Cw l E cc nL own fr lo kc ks ω) {x y : Int32} {off : Int} (tgt : Nat) {c9 : Prop} (hd : decode cc pc = .ok (.ifCond .le off, 3)) (ht : (pc : Int) + off = (tgt : Int)) (hc : (x ≤ 0) ↔ c9) (kt : c9 → ω ws lv st tgt) (kf : ¬ c9 → ω ws lv st (pc + 3)) : ω ws lv (.int x :: st) pc := by
  obtain ⟨p, e, R, s, m, args, below, meth, c, A, Q, hx, hb, hml, hown, hts, hK, hA, hG, hfr, hlo, hkc, hks, rfl⟩ := C
  intro H locs ls hP hD hS hl
  exact lv_if_le hx hb hd ht (fun h => kt (hc.mp h) H locs ls hP hD hS hl) (fun h => kf (fun z => h (hc.mpr z)) H locs ls hP hD hS hl)
theorem r_if_leT (C : Cw l E cc nL own fr lo kc ks ω) {x y : Int32} {off : Int} (tgt : Nat) (hd : decode cc pc = .ok (.ifCond .le off, 3)) (ht : (pc : Int) + off = (tgt : Int)) (hc : x ≤ 0) (kt : ω ws lv st tgt) : ω ws lv (.int x :: st) pc := by
  obtain ⟨p, e, R, s, m, args, below, meth, c, A, Q, hx, hb, hml, hown, hts, hK, hA, hG, hfr, hlo, hkc, hks, rfl⟩ := C
  intro H locs ls hP hD hS hl
  exact lv_if_le hx hb hd ht (fun h => kt H locs ls hP hD hS hl) (fun h => absurd hc h)
theorem r_if_leF (C : Cw l E cc nL own fr lo kc ks ω) {x y : Int32} {off : Int} (hd : decode cc pc = .ok (.ifCond .le off, 3)) {tgt : Nat} (ht : (pc : Int) + off = (tgt : Int)) (hc : ¬ (x ≤ 0)) (kf : ω ws lv st (pc + 3)) : ω ws lv (.int x :: st) pc := by
  obtain ⟨p, e, R, s, m, args, below, meth, c, A, Q, hx, hb, hml, hown, hts, hK, hA, hG, hfr, hlo, hkc, hks, rfl⟩ := C
  intro H locs ls hP hD hS hl
  exact lv_if_le hx hb hd ht (fun h => absurd h hc) (fun h => kf H locs ls hP hD hS hl)
theorem r_icmp_le (C : Cw l E cc nL own fr lo kc ks ω) {x y : Int32} {off : Int} (tgt : Nat) {c9 : Prop} (hd : decode cc pc = .ok (.if_icmp .le off, 3)) (ht : (pc : Int) + off = (tgt : Int)) (hc : (x ≤ y) ↔ c9) (kt : c9 → ω ws lv st tgt) (kf : ¬ c9 → ω ws lv st (pc + 3)) : ω ws lv (.int y :: .int x :: st) pc := by
  obtain ⟨p, e, R, s, m, args, below, meth, c, A, Q, hx, hb, hml, hown, hts, hK, hA, hG, hfr, hlo, hkc, hks, rfl⟩ := C
  intro H locs ls hP hD hS hl
  exact lv_icmp_le hx hb hd ht (fun h => kt (hc.mp h) H locs ls hP hD hS hl) (fun h => kf (fun z => h (hc.mpr z)) H locs ls hP hD hS hl)
theorem r_icmp_leT (C : Cw l E cc nL own fr lo kc ks ω) {x y : Int32} {off : Int} (tgt : Nat) (hd : decode cc pc = .ok (.if_icmp .le off, 3)) (ht : (pc : Int) + off = (tgt : Int)) (hc : x ≤ y) (kt : ω ws lv st tgt) : ω ws lv (.int y :: .int x :: st) pc := by
  obtain ⟨p, e, R, s, m, args, below, meth, c, A, Q, hx, hb, hml, hown, hts, hK, hA, hG, hfr, hlo, hkc, hks, rfl⟩ := C
  intro H locs ls hP hD hS hl
  exact lv_icmp_le hx hb hd ht (fun h => kt H locs ls hP hD hS hl) (fun h => absurd hc h)
theorem r_icmp_leF (C : Cw l E cc nL own fr lo kc ks ω) {x y : Int32} {off : Int} (hd : decode cc pc = .ok (.if_icmp .le off, 3)) {tgt : Nat} (ht : (pc : Int) + off = (tgt : Int)) (hc : ¬ (x ≤ y)) (kf : ω ws lv st (pc + 3)) : ω ws lv (.int y :: .int x :: st) pc := by
  obtain ⟨p, e, R, s, m, args, below, meth, c, A, Q, hx, hb, hml, hown, hts, hK, hA, hG, hfr, hlo, hkc, hks, rfl⟩ := C
  intro H locs ls hP hD hS hl
  exact lv_icmp_le hx hb hd ht (fun h => absurd h hc) (fun h => kf H locs ls hP hD hS hl)
theorem r_goto (C : Cw l E cc nL own fr lo kc ks ω) {off : Int} (tgt : Nat) (hd : decode cc pc = .ok (.goto off, 3)) (ht : (pc : Int) + off = (tgt : Int)) (k : ω ws lv st tgt) : ω ws lv st pc := by
  obtain ⟨p, e, R, s, m, args, below, meth, c, A, Q, hx, hb, hml, hown, hts, hK, hA, hG, hfr, hlo, hkc, hks, rfl⟩ := C
  intro H locs ls hP hD hS hl
  exact lv_goto hx hb hd ht (k H locs ls hP hD hS hl)
theorem r_ifnull (C : Cw l E cc nL own fr lo kc ks ω) {x : Nat} {off : Int} (hd : decode cc pc = .ok (.ifnull off, 3)) (k : ω ws lv st (pc + 3)) : ω ws lv (.ref x :: st) pc := by
  obtain ⟨p, e, R, s, m, args, below, meth, c, A, Q, hx, hb, hml, hown, hts, hK, hA, hG, hfr, hlo, hkc, hks, rfl⟩ := C
  intro H locs ls hP hD hS hl
  exact lv_ifnull hx hb hd (k H locs ls hP hD hS hl)
theorem r_ifnonnull (C : Cw l E cc nL own fr lo kc ks ω) {x : Nat} {off : Int} (tgt : Nat) (hd : decode cc pc = .ok (.ifnonnull off, 3)) (ht : (pc : Int) + off = (tgt : Int)) (k : ω ws lv st tgt) : ω ws lv (.ref x :: st) pc := by
  obtain ⟨p, e, R, s, m, args, below, meth, c, A, Q, hx, hb, hml, hown, hts, hK, hA, hG, hfr, hlo, hkc, hks, rfl⟩ := C
  intro H locs ls hP hD hS hl
  exact lv_ifnonnull hx hb hd ht (k H locs ls hP hD hS hl)
theorem r_tabIn (C : Cw l E cc nL own fr lo kc ks ω) {dflt lw hg : Int} {offs : Array Int} {len : Nat} {x : Int32} {off : Int} (tgt : Nat) (hd : decode cc pc = .ok (.tableswitch dflt lw hg offs, len)) (h1 : ¬ x.toInt < lw) (h2 : ¬ hg < x.toInt) (ho : offs[(x.toInt - lw).toNat]? = some off) (ht : (pc : Int) + off = (tgt : Int)) (k : ω ws lv st tgt) : ω ws lv (.int x :: st) pc := by
  obtain ⟨p, e, R, s, m, args, below, meth, c, A, Q, hx, hb, hml, hown, hts, hK, hA, hG, hfr, hlo, hkc, hks, rfl⟩ := C
  intro H locs ls hP hD hS hl
  exact lv_tableIn hx hb hd h1 h2 ho ht (k H locs ls hP hD hS hl)
theorem r_tabOut (C : Cw l E cc nL own fr lo kc ks ω) {dflt lw hg : Int} {offs : Array Int} {len : Nat} {x : Int32} (tgt : Nat) (hd : decode cc pc = .ok (.tableswitch dflt lw hg offs, len)) (h : x.toInt < lw ∨ hg < x.toInt) (ht : (pc : Int) + dflt = (tgt : Int)) (k : ω ws lv st tgt) : ω ws lv (.int x :: st) pc := by
  obtain ⟨p, e, R, s, m, args, below, meth, c, A, Q, hx, hb, hml, hown, hts, hK, hA, hG, hfr, hlo, hkc, hks, rfl⟩ := C
  intro H locs ls hP hD hS hl
  exact lv_tableOut hx hb hd h ht (k H locs ls hP hD hS hl)
theorem r_look (C : Cw l E cc nL own fr lo kc ks ω) {dflt : Int} {ps : Array (Int × Int)} {len : Nat} {x : Int32} {off : Int} (tgt : Nat) (hd : decode cc pc = .ok (.lookupswitch dflt ps, len)) (hp : (ps.toList.zip (ps.toList.drop 1)).all (fun (a, next) => a.1 < next.1) = true) (ho : Op.lookupswitch.offset ps.toList dflt x.toInt = off) (ht : (pc : Int) + off = (tgt : Int)) (k : ω ws lv st tgt) : ω ws lv (.int x :: st) pc := by
  obtain ⟨p, e, R, s, m, args, below, meth, c, A, Q, hx, hb, hml, hown, hts, hK, hA, hG, hfr, hlo, hkc, hks, rfl⟩ := C
  intro H locs ls hP hD hS hl
  exact lv_lookup hx hb hd hp ho ht (k H locs ls hP hD hS hl)
theorem r_get (C : Cw l E cc nL own fr lo kc ks ω) {a : Nat} {RC : String} {T : u_T} {N ci index : Nat} (q0 k9 : Nat) {fs : List Value} {v : Value} (hin : ∀ w ∈ u_ws RC T N, w ∈ Tw) (hc : vwCl[ci]? = some (RC, T, N)) (he : ws[q0]? = some (a, .inr (ci, fs))) (hk : k9 < N) (hl9 : Cond.fieldLink own index (T k9).1 (T k9).2.1 (T k9).2.2.1 ∈ Tw) (hv : fs[k9]? = some v) (hd : decode cc pc = .ok (.getfield index, 3)) (k : ω ws lv (v :: st) (pc + 3)) : ω ws lv (.ref a :: st) pc := by
  obtain ⟨p, e, R, s, m, args, below, meth, c, A, Q, hx, hb, hml, hown, hts, hK, hA, hG, hfr, hlo, hkc, hks, rfl⟩ := C
  intro H locs ls hP hD hS hl
  exact va_get (Ts := Tw) hx hb hts hin hown hK hP q0 he hc k9 hk (hts _ hl9) (fun _ h => h) hv hd (k H locs ls hP hD hS hl)
theorem r_put (C : Cw l E cc nL own fr lo kc ks ω) {a : Nat} {RC : String} {T : u_T} {N ci index : Nat} (q0 k9 : Nat) {fs : List Value} {v : Value} {ty0 : Nat → FieldType} {ty : FieldType} {ws' : va_W} (hin : ∀ w ∈ u_ws RC T N, w ∈ Tw) (hc : vwCl[ci]? = some (RC, T, N)) (hty : ∀ k, k < N → parseFieldDescriptor (T k).2.2.1 = some (ty0 k)) (hnm : ∀ a, a < N → ∀ b, b < N → a ≠ b → (T a).2.1 ≠ (T b).2.1) (he : ws[q0]? = some (a, .inr (ci, fs))) (hk : k9 < N) (hl9 : Cond.fieldLink own index (T k9).1 (T k9).2.1 (T k9).2.2.1 ∈ Tw) (hfin : (T k9).2.2.2 = false) (hpd : parseFieldDescriptor (T k9).2.2.1 = some ty) (hn : narrow ty v = v) (hfit : fits ty v = true) (hlen : k9 < fs.length) (hw : ws.set q0 (a, .inr (ci, fs.set k9 v)) = ws') (hd : decode cc pc = .ok (.putfield index, 3)) (k : ω ws' lv st (pc + 3)) : ω ws lv (v :: .ref a :: st) pc := by
  obtain ⟨p, e, R, s, m, args, below, meth, c, A, Q, hx, hb, hml, hown, hts, hK, hA, hG, hfr, hlo, hkc, hks, rfl⟩ := C
  intro H locs ls hP hD hS hl
  subst hw
  exact va_put (Ts := Tw) hx hb hts hin ty0 hty hnm hown hK hP hD hS q0 he hc k9 hk (hts _ hl9) (fun _ h => h) hfin hpd hn hfit hlen hd (fun H1 locs1 hP hD hS => k H1 locs1 ls hP hD hS hl)
theorem r_iald (C : Cw l E cc nL own fr lo kc ks ω) {a n j : Nat} {f : Nat → Int32} (q0 : Nat) {v : Int32} (ha : ws[q0]? = some (a, .inl (eI E, n, .inl f))) (hj : j < n) (hn : n < 2147483648) (hv : f j = v) (hd : decode cc pc = .ok (.iaload, 1)) (k : ω ws lv (.int v :: st) (pc + 1)) : ω ws lv (.int (nI j) :: .ref a :: st) pc := by
  obtain ⟨p, e, R, s, m, args, below, meth, c, A, Q, hx, hb, hml, hown, hts, hK, hA, hG, hfr, hlo, hkc, hks, rfl⟩ := C
  intro H locs ls hP hD hS hl
  refine va_iald (i := nI j) hx hb hK hP q0 0 ha rfl (vp_in_nI hj hn) hd ?_
  rw [nI_clamp (by omega), hv]
  exact k H locs ls hP hD hS hl
theorem r_zald (C : Cw l E cc nL own fr lo kc ks ω) {a n j : Nat} {f : Nat → Int32} (q0 : Nat) {v : Int32} (ha : ws[q0]? = some (a, .inl (eZ E, n, .inl f))) (hj : j < n) (hn : n < 2147483648) (hv : f j = v) (hd : decode cc pc = .ok (.baload, 1)) (k : ω ws lv (.int v :: st) (pc + 1)) : ω ws lv (.int (nI j) :: .ref a :: st) pc := by
  obtain ⟨p, e, R, s, m, args, below, meth, c, A, Q, hx, hb, hml, hown, hts, hK, hA, hG, hfr, hlo, hkc, hks, rfl⟩ := C
  intro H locs ls hP hD hS hl
  refine va_zald (i := nI j) hx hb hK hP q0 1 ha rfl (vp_in_nI hj hn) hd ?_
  rw [nI_clamp (by omega), hv]
  exact k H locs ls hP hD hS hl
theorem r_iast (C : Cw l E cc nL own fr lo kc ks ω) {a n j : Nat} {f : Nat → Int32} {x : Int32} {ws' : va_W} (q0 : Nat) (ha : ws[q0]? = some (a, .inl (eI E, n, .inl f))) (hj : j < n) (hn : n < 2147483648) (hw : ws.set q0 (a, .inl (eI E, n, .inl (upd f j x))) = ws') (hd : decode cc pc = .ok (.iastore, 1)) (k : ω ws' lv st (pc + 1)) : ω ws lv (.int x :: .int (nI j) :: .ref a :: st) pc := by
  obtain ⟨p, e, R, s, m, args, below, meth, c, A, Q, hx, hb, hml, hown, hts, hK, hA, hG, hfr, hlo, hkc, hks, rfl⟩ := C
  intro H locs ls hP hD hS hl
  subst hw
  refine va_iast (i := nI j) hx hb hK hP hD hS q0 0 ha rfl (vp_in_nI hj hn) hd (fun H1 locs1 hP hD hS => ?_)
  rw [nI_clamp (by omega)] at hP hD
  exact k H1 locs1 ls hP hD hS hl
theorem r_zast (C : Cw l E cc nL own fr lo kc ks ω) {a n j : Nat} {f : Nat → Int32} {x : Int32} {ws' : va_W} (q0 : Nat) (ha : ws[q0]? = some (a, .inl (eZ E, n, .inl f))) (hj : j < n) (hn : n < 2147483648) (hx9 : vp_nar .boolean x = x) (hw : ws.set q0 (a, .inl (eZ E, n, .inl (upd f j x))) = ws') (hd : decode cc pc = .ok (.bastore, 1)) (k : ω ws' lv st (pc + 1)) : ω ws lv (.int x :: .int (nI j) :: .ref a :: st) pc := by
  obtain ⟨p, e, R, s, m, args, below, meth, c, A, Q, hx, hb, hml, hown, hts, hK, hA, hG, hfr, hlo, hkc, hks, rfl⟩ := C
  intro H locs ls hP hD hS hl
  subst hw
  refine va_zast (i := nI j) hx hb hK hP hD hS q0 1 ha rfl (vp_in_nI hj hn) hd (fun H1 locs1 hP hD hS => ?_)
  rw [nI_clamp (by omega), hx9] at hP hD
  exact k H1 locs1 ls hP hD hS hl
theorem r_alen (C : Cw l E cc nL own fr lo kc ks ω) {a n : Nat} {f : Nat → Int32} (q0 : Nat) (ha : ws[q0]? = some (a, .inl (eI E, n, .inl f))) (hd : decode cc pc = .ok (.arraylength, 1)) (k : ω ws lv (.int (nI n) :: st) (pc + 1)) : ω ws lv (.ref a :: st) pc := by
  obtain ⟨p, e, R, s, m, args, below, meth, c, A, Q, hx, hb, hml, hown, hts, hK, hA, hG, hfr, hlo, hkc, hks, rfl⟩ := C
  intro H locs ls hP hD hS hl
  exact va_alen (x := (n, .inl f)) hx hb hK hP q0 0 ha rfl rfl hd (k H locs ls hP hD hS hl)
end ROWS
