/-! the law's own numbers out of the script -/
theorem any_nI (x : Int32) : ∃ k : Nat, x = nI k := ⟨x.toBitVec.toNat, Int32.toBitVec_inj.mp (BitVec.eq_of_toNat_eq (by
  show x.toBitVec.toNat = x.toBitVec.toNat % 2 ^ 32
  exact (Nat.mod_eq_of_lt x.toBitVec.isLt).symm))⟩
theorem and31m (x : Int32) : ∃ m : Nat, m < 2147483648 ∧ x &&& nI 2147483647 = nI m := by
  obtain ⟨k, rfl⟩ := any_nI x
  refine ⟨k % 2147483648, Nat.mod_lt _ (by decide), ?_⟩
  rw [v_and, show (2147483647 : Nat) = 2 ^ 31 - 1 from rfl, Nat.and_two_pow_sub_one_eq_mod]
def PrC (E : Ev) (b L : Nat) (xs : Nat → Int32) (sz : Nat) (U : State) : Prop := Pr E [] sz U ∧ va_X b L xs U U.heap ∧ b < sz
theorem PrC_blind {E : Ev} {b L : Nat} {xs : Nat → Int32} {sz : Nat} {av : List Value} : FrameBlind (va_Pc av (PrC E b L xs sz)) := by
  intro a U g mk h
  obtain ⟨h0, h1, h2, h3⟩ := h
  have h4 := Pr_blind (E := E) (ws := []) (sz := sz) (av := av) a U g mk ⟨h0, h1⟩
  exact ⟨h4.1, h4.2, va_X.moved (u := U) (U := U.calling g mk a) (Vm.Alike.refl U.vm) h2, h3⟩
set_option maxHeartbeats 1000000 in
theorem cell_met {l : Launch} {E : Ev} {b L : Nat} {xs : Nat → Int32} (hL : L ≤ 260) {k : Nat} (hk : k < 2147483648) (sz : Nat) : Met l yL_cell (.code yL_cell cL_cell 2 (some FieldType.int) :: Tw) ({ frames := 0, cells := 0, slots := 0, locals := 0 }) (va_Pc [.ref b, .int (nI k)] (PrC E b L xs sz)) (Po E [] sz (fun v9 _ => ∃ m : Nat, m < 2147483648 ∧ v9 = some (.int (nI m)))) 0 0 (va_A [] sz) := by
  refine Met.ofW (cc := cL_cell) (maxL := 2) (ret := some FieldType.int) (by decide +kernel) rfl ?_
  intro p e s m args below meth c s₁ B hml hv
  obtain ⟨rfl, ⟨hsz, hP, hK, hD0, hG⟩, hX, hbl⟩ := hv
  have hts := atoms_spec (ws := .code yL_cell cL_cell 2 (some FieldType.int) :: Tw) B.pre
  have hown : s.vm.findClass yL_cell.cls = some m.cls := findClass_of_methodNamed B.named
  have hx := B.exec
  have hb := B.bytes
  have hr := B.returns
  have hlocks := B.notSynchronized
  subst hsz
  rw [lg_entry_eq]
  have hl := lv_entry [.ref b, .int (nI k)] (n := 2) (Nat.le_of_ble_eq_true rfl)
  have hts9 : ∀ w ∈ Tw, w.before ([.ref b, .int (nI k)] : List Value).toArray s = true := fun w h => hts w (List.mem_cons_of_mem _ h)
  have hbA : ¬ va_A [] s.heap.size b := fun z => by
    rcases z with ⟨j, e9, h⟩ | h
    · simp at h
    · omega
  have main : ∀ ω : Om, ω = omL p l e ({ frames := 0, cells := 0, slots := 0, locals := 0 }) s m ([.ref b, .int (nI k)] : List Value).toArray below meth c E 2 (va_A [] s.heap.size) (MQ below (Po E [] s.heap.size (fun v9 _ => ∃ m : Nat, m < 2147483648 ∧ v9 = some (.int (nI m)))) ([.ref b, .int (nI k)] : List Value).toArray s 0 0 (va_A [] s.heap.size)) 0 0 → ω [] [(0, .ref b), (1, .int (nI k))] [] 0 := by
    intro ω hω
    have C : Cw l E cL_cell 2 yL_cell.cls 0 0 0 0 ω := ⟨p, e, ({ frames := 0, cells := 0, slots := 0, locals := 0 }), s, m, _, below, meth, c, va_A [] s.heap.size, _, hx, hb, hml, hown, hts9, hK, fun q h => Or.inr h, hG, rfl, rfl, Nat.le_refl _, Nat.le_refl _, hω⟩
    have RT : ∀ (n : Nat) (lv : List (Nat × Value)) (pc : Nat), n < 2147483648 → decode cL_cell pc = .ok (.ireturn, 1) → ω [] lv [.int (nI n)] pc := by
      intro n lv pc hn hd
      subst hω
      intro H locs ls hP hD hS hl
      exact W.zret hx hb hr rfl (fun t ht hW => ⟨⟨_, [], rfl, ⟨n, hn, rfl⟩, by rw [ht]; exact hP, rfl⟩, hS.F ht⟩) hS.2.2 hd hlocks
    have LEN : ∀ (lv : List (Nat × Value)) (st : List Value) (pc : Nat), decode cL_cell pc = .ok (.arraylength, 1) → ω [] lv (.int (nI L) :: st) (pc + 1) → ω [] lv (.ref b :: st) pc := by
      intro lv st pc hd kk
      subst hω
      intro H locs ls hP hD hS hl
      exact va_slen hx hb hX hbl hbA hS hd (kk H locs ls hP hD hS hl)
    have LD : ∀ (lv : List (Nat × Value)) (st : List Value) (pc : Nat), k < L → decode cL_cell pc = .ok (.iaload, 1) → ω [] lv (.int (xs k) :: st) (pc + 1) → ω [] lv (.int (nI k) :: .ref b :: st) pc := by
      intro lv st pc hkL hd kk
      subst hω
      intro H locs ls hP hD hS hl
      refine va_sld hx hb hX hbl hbA hS (vp_in_nI hkL (by omega)) hd ?_
      rw [nI_clamp (by omega)]
      exact kk H locs ls hP hD hS hl
    have J : ∀ y : Int32, ω [] [(0, .ref b), (1, .int (nI k))] [.int y] 22 := by
      intro y
      refine r_ldc (v := nI 2147483647) C dL_cell_22 w_4_235 ?_
      obtain ⟨n, hn, en⟩ := and31m y
      refine r_iand (v := nI n) C dL_cell_24 en ?_
      exact RT n _ _ hn dL_cell_25
    refine r_iload_n C (i := 1) 1 dL_cell_0 rfl rfl ?_
    refine r_aload_n C (i := 0) 0 dL_cell_1 rfl rfl ?_
    refine LEN _ _ _ dL_cell_2 ?_
    refine r_icmp_ge C (c9 := L ≤ k) 12 dL_cell_3 (by decide) (c_leNN (by omega) (by omega)) (fun h9 => ?_) (fun h9 => ?_)
    · refine r_ldc (v := nI 15518933) C dL_cell_12 w_4_234 ?_
      refine r_iload_n C (i := 1) 1 dL_cell_14 rfl rfl ?_
      refine r_iconst C dL_cell_15 ki_3 ?_
      refine r_iadd (v := nI (k + 3)) C dL_cell_16 (nI_add _ _) ?_
      refine r_imul (v := nI 15518933 * nI (k + 3)) C dL_cell_17 rfl ?_
      refine r_sipush C dL_cell_18 ks_11117 ?_
      refine r_iadd (v := nI 15518933 * nI (k + 3) + nI 11117) C dL_cell_21 rfl ?_
      exact J _
    · refine r_aload_n C (i := 0) 0 dL_cell_6 rfl rfl ?_
      refine r_iload_n C (i := 1) 1 dL_cell_7 rfl rfl ?_
      refine LD _ _ _ (by omega) dL_cell_8 ?_
      refine r_goto C 22 dL_cell_9 (by decide) ?_
      exact J _
  exact main _ rfl s.heap [] _ hP hD0.self va_S.rf hl
/-! the law's body behind its start: Ω j is what its end comes from when j cells of six slots have been made -/
def Lb (l : Launch) (E : Ev) (b : Nat) (Ω : Nat → Om) : Prop :=
  (∀ j : Nat, j ≤ 6000 → Cw l E cL_law 19 "BillArchiveLaw" 14 582 (50 + j) (10032 + 6 * j) (Ω j)) ∧
  Upw Ω ∧
  (∀ (j : Nat) (ws : va_W) (lv : List (Nat × Value)) (pc : Nat), j ≤ 6000 → decode cL_law pc = .ok (.ireturn, 1) → Ω j ws lv [.int (nI 1)] pc) ∧
  Ca l E cL_law "BillArchiveLaw" 14 582 6000 Ω ∧
  (∀ (j k : Nat) (ws : va_W) (lv : List (Nat × Value)) (rest : List Value) (pc index : Nat), j ≤ 6000 → k < 2147483648 → Cond.methodLink "BillArchiveLaw" index yL_cell ∈ Tw → decode cL_law pc = .ok (.invokestatic index, 3) → (rest.map fun v => v.category).sum ≤ 8 → (∀ m : Nat, m < 2147483648 → Ω j ws lv (.int (nI m) :: rest) (pc + 3)) → Ω j ws lv (.int (nI k) :: .ref b :: rest) pc) ∧
  (∀ (j : Nat) (ws : va_W) (lv : List (Nat × Value)) (st : List Value) (pc : Nat), j + 1 ≤ 6000 → decode cL_law pc = .ok (.newarray .int, 2) → (∀ q : Nat, Ω (j + 1) (ws ++ [(q, .inl (eI E, 6, .inl (fun _ => nI 0)))]) lv (.ref q :: st) (pc + 2)) → Ω j ws lv (.int (nI 6) :: st) pc) ∧
  (∀ (j : Nat) (ws ws' : va_W) (lv : List (Nat × Value)) (st : List Value) (pc : Nat) (is : List Nat), va_nd is = true → is.map (fun i => ws[i]?) = ws'.map some → Ω j ws' lv st pc → Ω j ws lv st pc)
theorem Lb.drop {l : Launch} {E : Ev} {b : Nat} {Ω : Nat → Om} (h : Lb l E b Ω) {j : Nat} {w v t : va_W} {lv : List (Nat × Value)} {st : List Value} {pc : Nat} (k : Ω j (w ++ (v ++ [])) lv st pc) : Ω j (w ++ (v ++ t)) lv st pc := by
  have e : w ++ (v ++ t) = [] ++ ((w ++ (v ++ [])) ++ t) := by simp
  rw [e]
  exact h.2.2.2.2.2.2 j _ (w ++ (v ++ [])) lv st pc (List.range' 0 (w ++ (v ++ [])).length) (ndR _ _) (cutM [] (w ++ (v ++ [])) t) k
theorem Ca.both {l : Launch} {E : Ev} {cc : ByteArray} {own : String} {fr lo k : Nat} {Ω : Nat → Om} (h : Ca l E cc own fr lo k Ω) (up : Upw Ω) {j K : Nat} {w v suf : va_W} {lv : List (Nat × Value)} {st rest As : List Value} {pc index maxL fr' lo' : Nat} {y : MethodName} {bytes : ByteArray} {ret : Option FieldType} {ho : Option (List (Nat × Nat × Nat × Nat))} {post : Option Value → va_W → Prop} (hj : j + K ≤ k) (hM : CtL l E y bytes maxL ret ho fr' lo' K As (w ++ (v ++ [])) post) (hk : LkN y bytes maxL ret ho As.length) (hl : Cond.methodLink own index y ∈ Tw) (hd : decode cc pc = .ok (.invokestatic index, 3)) (hst : st = As.reverse ++ rest) (hR : fr' + 1 ≤ fr ∧ 8 + (maxL + 11) + lo' ≤ lo) (hrm : (rest.map fun v => v.category).sum ≤ 8) (kk : ∀ (x : Option Value) (w9 : va_W), post x w9 → ∃ w1 w2 : va_W, w9 = w1 ++ (w2 ++ []) ∧ Ω (j + K) (w1 ++ (w2 ++ suf)) lv (x.toList ++ rest) (pc + 3)) : Ω j (w ++ (v ++ suf)) lv st pc := by
  have e : w ++ (v ++ suf) = [] ++ ((w ++ (v ++ [])) ++ suf) := by simp
  rw [e]
  refine h.at up hj hM hk hl hd hst hR hrm (fun x w9 hp => ?_)
  obtain ⟨w1, w2, rfl, h9⟩ := kk x w9 hp
  have e2 : [] ++ ((w1 ++ (w2 ++ [])) ++ suf) = w1 ++ (w2 ++ suf) := by simp
  rw [e2]
  exact h9
theorem at50 {w v : va_W} {c : Nat × va_E} (hw : w.length = 25) (hv : v.length = 25) : (w ++ (v ++ [c]))[50]? = some c := by
  rw [List.getElem?_append_right (by omega), List.getElem?_append_right (by omega), show 50 - w.length - v.length = 0 from by omega]
  rfl
theorem set50 {w v : va_W} {c d : Nat × va_E} (hw : w.length = 25) (hv : v.length = 25) : (w ++ (v ++ [c])).set 50 d = w ++ (v ++ [d]) := by
  rw [List.set_append_right _ _ (by omega), List.set_append_right _ _ (by omega), show 50 - w.length - v.length = 0 from by omega]
  rfl
theorem tf_s {f : Nat → Int32} {g : Nat → Nat} {p : Nat} (h : ∀ q, q < p → f q = mI (g q)) : ∀ q, q < p + 1 → upd f p (mI (g p)) q = mI (g q) := by
  intro q hq
  by_cases e : q = p
  · subst e; exact pk_us
  · rw [pk_un e]; exact h q (by omega)
theorem Gk_00 (x y : Nat) : Gk (kDo (kDo (kDo K00 (oPart K00.1)) (oHire (kDo K00 (oPart K00.1)).1 x)) (oHire (kDo (kDo K00 (oPart K00.1)) (oHire (kDo K00 (oPart K00.1)).1 x)).1 y)) := by
  refine ⟨⟨Nat.le_of_ble_eq_true rfl, Nat.le_of_ble_eq_true rfl⟩, Nat.le_of_ble_eq_true rfl, fun i hi => absurd (show (0 : Nat) = 1 from hi) (by decide), fun k hk => ?_, fun _ => ⟨Nat.le_of_ble_eq_true rfl, Nat.le_of_ble_eq_true rfl⟩⟩
  have hk : k + 1 < 3 := hk
  rcases (by omega : k = 0 ∨ k = 1) with rfl | rfl
  · exact ⟨Nat.le_of_ble_eq_true rfl, Nat.le_of_ble_eq_true rfl⟩
  · exact ⟨Nat.le_of_ble_eq_true rfl, Nat.le_of_ble_eq_true rfl⟩
