/-! members of the JDK that the kit has rows for -/
section JDK
variable {l : Launch} {E : Ev} {cc : ByteArray} {nL : Nat} {own : String} {fr lo kc ks : Nat} {ω : Om} {ws : va_W} {lv : List (Nat × Value)} {st : List Value} {pc index : Nat}
theorem r_mmax (C : Cw l E cc nL own fr lo kc ks ω) {x y v : Int32} (hl : Cond.methodLink own index Lib.Math.max.name ∈ Tw) (hd : decode cc pc = .ok (.invokestatic index, 3)) (hf : 1 ≤ fr) (hlo : 13 + 8 ≤ lo) (hv : (if x < y then y else x) = v) (hrm : (st.map fun v => v.category).sum ≤ 8) (k : ω ws lv (.int v :: st) (pc + 3)) : ω ws lv (.int y :: .int x :: st) pc := by
  obtain ⟨p, e, R, s, m, args, below, meth, c, A, Q, hx, hb, hml, hown, hts, hK, hA, hG, hfr, hlo9, hkc, hks, rfl⟩ := C
  intro H locs ls hP hD hS hl9
  subst hfr; subst hlo9; subst hv
  exact va_mmax hx hb (hml.trans hl9.1.symm) hown (hts _ hl) (hts _ w_4_181) (hts _ (Tw_of (Tw_t1 (List.mem_of_getElem? (i := 16) (by decide +kernel))) (by rfl))) (hts _ w_4_182) hf (by omega) hkc hks hd (k H locs ls hP hD hS hl9)
theorem r_mmin (C : Cw l E cc nL own fr lo kc ks ω) {x y v : Int32} (hl : Cond.methodLink own index Lib.Math.min.name ∈ Tw) (hd : decode cc pc = .ok (.invokestatic index, 3)) (hf : 1 ≤ fr) (hlo : 13 + 8 ≤ lo) (hv : (if y < x then y else x) = v) (hrm : (st.map fun v => v.category).sum ≤ 8) (k : ω ws lv (.int v :: st) (pc + 3)) : ω ws lv (.int y :: .int x :: st) pc := by
  obtain ⟨p, e, R, s, m, args, below, meth, c, A, Q, hx, hb, hml, hown, hts, hK, hA, hG, hfr, hlo9, hkc, hks, rfl⟩ := C
  intro H locs ls hP hD hS hl9
  subst hfr; subst hlo9; subst hv
  exact va_mmin hx hb (hml.trans hl9.1.symm) hown (hts _ hl) (hts _ w_3_58) (hts _ (Tw_of (Tw_t1 (List.mem_of_getElem? (i := 16) (by decide +kernel))) (by rfl))) (hts _ w_3_59) hf (by omega) hkc hks hd (k H locs ls hP hD hS hl9)
theorem r_copy (C : Cw l E cc nL own fr lo kc ks ω) {a a0 n0 n1 sp dp n : Nat} {f g : Nat → Int32} {ws' : va_W} (q0 q1 : Nat) (hl : Cond.methodLink own index arraycopyName ∈ Tw) (ha0 : ws[q0]? = some (a0, .inl (eI E, n0, .inl f))) (ha1 : ws[q1]? = some (a, .inl (eI E, n1, .inl g))) (h4 : sp + n ≤ n0) (h5 : dp + n ≤ n1) (hn0 : n0 < 2147483648) (hn1 : n1 < 2147483648) (hf : 1 ≤ fr) (hlo : nativeFrameWords "java/lang/System" "arraycopy" 5 + 11 + 8 ≤ lo) (hrm : (st.map fun v => v.category).sum ≤ 8) (hw : ws.set q1 (a, .inl (eI E, n1, .inl (va_cpy f g sp dp n))) = ws') (hd : decode cc pc = .ok (.invokestatic index, 3)) (k : ω ws' lv st (pc + 3)) : ω ws lv (.int (nI n) :: .int (nI dp) :: .ref a :: .int (nI sp) :: .ref a0 :: st) pc := by
  obtain ⟨p, e, R, s, m, args, below, meth, c, A, Q, hx, hb, hml, hown, hts, hK, hA, hG, hfr, hlo9, hkc, hks, rfl⟩ := C
  intro H locs ls hP hD hS hl9
  subst hfr; subst hlo9; subst hw
  refine va_copyi hx hb (hml.trans hl9.1.symm) hown (hts _ hl) (hts _ w_2_26) (hts _ w_2_25) (hts _ (Tw_of (Tw_t1 (List.mem_of_getElem? (i := 19) (by decide +kernel))) (by rfl))) hK hP hD hS q0 q1 0 0 ha0 ha1 rfl rfl rfl (sp := nI sp) (dp := nI dp) (n := nI n) (nI_pos (by omega)) (nI_pos (by omega)) (nI_pos (by omega)) ?_ ?_ (fun _ _ => rfl) hf (by omega) hd (fun H1 locs1 hP hD hS => ?_)
  · rw [nI_clamp (by omega), nI_clamp (by omega)]; exact h4
  · rw [nI_clamp (by omega), nI_clamp (by omega)]; exact h5
  · rw [nI_clamp (by omega), nI_clamp (by omega), nI_clamp (by omega)] at hP hD
    exact k H1 locs1 ls hP hD hS hl9
end JDK
theorem sv {v v' : Int32} (h : v = v') : some (Value.int v) = some (Value.int v') := by rw [h]
theorem cpyWhole {f g : Nat → Int32} {sp n j : Nat} (h : j < n) : va_cpy f g sp 0 n j = f (sp + j) := by
  rw [va_cpy, if_pos (by omega), Nat.sub_zero]
/-- two rows that hold the same at the places of a state -/
theorem RepC_eq {σ : Sg} {f g : Nat → Int32} (hW : Wf σ) (h : RepC σ f) (e : ∀ j, j < 265 → g j = f j) : RepC σ g := by
  have hwP := hW.P
  have hwA := hW.A
  have hwS := hW.S
  refine ⟨?_, ?_, ?_, ?_, ?_, ?_, ?_, ?_, ?_, ?_⟩
  · rw [e _ (by omega)]; exact h.P
  · rw [e _ (by omega)]; exact h.A
  · rw [e _ (by omega)]; exact h.S
  · intro i hi; rw [e _ (by omega)]; exact h.O hi
  · intro a ha; rw [e _ (by omega)]; exact h.F ha
  · intro n hn; rw [e _ (by omega)]; exact h.I hn
  · intro p hp; rw [e _ (by omega)]; exact h.C hp
  · intro p k hp hk; have := hW.C hp; rw [e _ (by omega)]; exact h.U hp hk
  · intro p n hp hn; rw [e _ (by omega)]; exact h.R hp hn
  · intro k j hk hj; rw [e _ (by omega)]; exact h.L hk hj
theorem RepM_eq {σ : Sg} {f g : Nat → Int32} (hW : Wf σ) (h : RepM σ f) (e : ∀ j, j < 255 → g j = f j) : RepM σ g := by
  have hwP := hW.P
  have hwA := hW.A
  have hwS := hW.S
  refine ⟨?_, ?_, ?_, ?_, ?_, ?_, ?_, ?_, ?_, ?_⟩
  · rw [e _ (by omega)]; exact h.P
  · rw [e _ (by omega)]; exact h.A
  · rw [e _ (by omega)]; exact h.S
  · intro i hi; rw [e _ (by omega)]; exact h.O hi
  · intro a ha; rw [e _ (by omega)]; exact h.F ha
  · intro n hn; rw [e _ (by omega)]; exact h.I hn
  · intro p hp; rw [e _ (by omega)]; exact h.C hp
  · intro p k hp hk; have := hW.C hp; rw [e _ (by omega)]; exact h.U hp hk
  · intro p n hp hn; rw [e _ (by omega)]; exact h.R hp hn
  · intro k j hk hj; rw [e _ (by omega)]; exact h.L hk hj
