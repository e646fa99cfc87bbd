/-! rows over the texts of the reading, and the two statics that String reads -/
section TEXTS
variable {l : Launch} {E : Ev} {cc : ByteArray} {nL : Nat} {own : String} {fr lo kc ks : Nat} {ω : Om} {ws : va_W} {lv : List (Nat × Value)} {st : List Value} {pc : Nat}
theorem r_gets (C : Cw l E cc nL own fr lo kc ks ω) {index : Nat} (hl9 : Cond.fieldLink own index "java/lang/String" "COMPACT_STRINGS" "Z" ∈ Tw) (hd : decode cc pc = .ok (.getstatic index, 3)) (k : ω ws lv (.int 1 :: st) (pc + 3)) : ω ws lv st pc := by
  obtain ⟨p, e, R, s, m, args, below, meth, c, A, Q, hx, hb, hml, hown, hts, hK, hA, hG, hfr, hlo, hkc, hks, rfl⟩ := C
  intro H locs ls hP hD hS hl
  exact va_gets hx hb hG.2.2.2.2.2.1 hS hown (hts _ hl9) (fun _ h => h) hd (k H locs ls hP hD hS hl)
theorem r_getsq (C : Cw l E cc nL own fr lo kc ks ω) {index : Nat} (hl9 : Cond.fieldLink own index "jdk/internal/util/Preconditions" "SIOOBE_FORMATTER" "Ljava/util/function/BiFunction;" ∈ Tw) (hd : decode cc pc = .ok (.getstatic index, 3)) (k : ∀ v : Value, (v = .null ∨ ∃ t : Nat, v = .ref t) → ω ws lv (v :: st) (pc + 3)) : ω ws lv st pc := by
  obtain ⟨p, e, R, s, m, args, below, meth, c, A, Q, hx, hb, hml, hown, hts, hK, hA, hG, hfr, hlo, hkc, hks, rfl⟩ := C
  intro H locs ls hP hD hS hl
  rcases hG.2.2.2.2.2.2.1 with h | ⟨t, h⟩
  · exact va_gets hx hb h hS hown (hts _ hl9) (fun _ h => h) hd (k _ (Or.inl rfl) H locs ls hP hD hS hl)
  · exact va_gets hx hb h hS hown (hts _ hl9) (fun _ h => h) hd (k _ (Or.inr ⟨t, rfl⟩) H locs ls hP hD hS hl)
theorem r_getV (C : Cw l E cc nL own fr lo kc ks ω) {index : Nat} (i : Nat) {j : Nat} (hi : i < digL.length) (hj : digL.getD i 0 = j) (hl9 : Cond.fieldLink own index "java/lang/String" "value" "[B" ∈ Tw) (hd : decode cc pc = .ok (.getfield index, 3)) (k : ω ws lv (.ref (E.2.2.2 i) :: st) (pc + 3)) : ω ws lv (.ref (E.2.2.1 j) :: st) pc := by
  obtain ⟨p, e, R, s, m, args, below, meth, c, A, Q, hx, hb, hml, hown, hts, hK, hA, hG, hfr, hlo, hkc, hks, rfl⟩ := C
  intro H locs ls hP hD hS hl
  subst hj
  exact vk_getf hx hb ((hG.2.2.2.2.1 i hi).1 0 (Nat.lt_succ_self 0)).2.2.1 hS hown (hts _ hl9) (fun _ h => h) hd (k H locs ls hP hD hS hl)
theorem r_getK (C : Cw l E cc nL own fr lo kc ks ω) {index : Nat} (i : Nat) {j : Nat} (hi : i < digL.length) (hj : digL.getD i 0 = j) (hl9 : Cond.fieldLink own index "java/lang/String" "coder" "B" ∈ Tw) (hd : decode cc pc = .ok (.getfield index, 3)) (k : ω ws lv (.int 0 :: st) (pc + 3)) : ω ws lv (.ref (E.2.2.1 j) :: st) pc := by
  obtain ⟨p, e, R, s, m, args, below, meth, c, A, Q, hx, hb, hml, hown, hts, hK, hA, hG, hfr, hlo, hkc, hks, rfl⟩ := C
  intro H locs ls hP hD hS hl
  subst hj
  exact vk_getf hx hb ((hG.2.2.2.2.1 i hi).1 0 (Nat.lt_succ_self 0)).2.1 hS hown (hts _ hl9) (fun _ h => h) hd (k H locs ls hP hD hS hl)
theorem r_alenS (C : Cw l E cc nL own fr lo kc ks ω) (i : Nat) {n : Nat} (hi : i < digL.length) (hn : digN.getD i 0 = n) (hd : decode cc pc = .ok (.arraylength, 1)) (k : ω ws lv (.int (Int32.ofNat n) :: st) (pc + 1)) : ω ws lv (.ref (E.2.2.2 i) :: st) pc := by
  obtain ⟨p, e, R, s, m, args, below, meth, c, A, Q, hx, hb, hml, hown, hts, hK, hA, hG, hfr, hlo, hkc, hks, rfl⟩ := C
  intro H locs ls hP hD hS hl
  subst hn
  exact va_tlen hx hb ((hG.2.2.2.2.1 i hi).1 0 (Nat.lt_succ_self 0)).2.2.2 hS rfl hd (k H locs ls hP hD hS hl)
theorem r_baldS (C : Cw l E cc nL own fr lo kc ks ω) (i : Nat) {j : Int32} {v : Int32} (hi : i < digL.length) (hj : vp_in j (digN.getD i 0)) (hv : (digB.getD i []).getD j.toNatClampNeg 0 = v) (hd : decode cc pc = .ok (.baload, 1)) (k : ω ws lv (.int v :: st) (pc + 1)) : ω ws lv (.int j :: .ref (E.2.2.2 i) :: st) pc := by
  obtain ⟨p, e, R, s, m, args, below, meth, c, A, Q, hx, hb, hml, hown, hts, hK, hA, hG, hfr, hlo, hkc, hks, rfl⟩ := C
  intro H locs ls hP hD hS hl
  subst hv
  exact va_tb hx hb ((hG.2.2.2.2.1 i hi).1 0 (Nat.lt_succ_self 0)).2.2.2 hS hj rfl hd (k H locs ls hP hD hS hl)
end TEXTS
