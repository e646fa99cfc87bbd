/-! the rows behind the actions -/
theorem RepC_hire {σ : Sg} {f : Nat → Int32} (hR : RepC σ f) (hW : Wf σ) {x : Nat} (hA : sA σ < 10) : RepC (oHire σ x) (upd (upd f (5 + sA σ) (nI x)) 1 (nI (sA σ + 1))) := by
  have hwP := hW.P
  have hwA := hW.A
  have hwS := hW.S
  refine ⟨?_, ?_, ?_, ?_, ?_, ?_, ?_, ?_, ?_, ?_⟩
  · rw [pk_un (by omega), pk_un (by omega)]
    exact hR.P
  · exact pk_us
  · rw [pk_un (by omega), pk_un (by omega)]
    exact hR.S
  · intro i hi
    rw [pk_un (by omega), pk_un (by omega)]
    exact hR.O hi
  · intro a ha
    rw [hire_A] at ha
    rw [hire_F, pk_un (by omega)]
    by_cases e : a = sA σ
    · rw [if_pos e, e]; exact pk_us
    · rw [if_neg e, pk_un (by omega)]; exact hR.F (by omega)
  · intro n hn
    rw [pk_un (by omega), pk_un (by omega)]
    exact hR.I hn
  · intro p hp
    rw [pk_un (by omega), pk_un (by omega)]
    exact hR.C hp
  · intro p k hp hk
    rw [pk_un (by omega), pk_un (by omega)]
    exact hR.U hp hk
  · intro p n hp hn
    rw [pk_un (by omega), pk_un (by omega)]
    exact hR.R hp hn
  · intro k j hk hj
    rw [pk_un (by omega), pk_un (by omega)]
    exact hR.L hk hj
theorem RepM_hire {σ : Sg} {f : Nat → Int32} (hR : RepM σ f) (hW : Wf σ) {x : Nat} (hA : sA σ < 10) : RepM (oHire σ x) (upd (upd (upd f (5 + sA σ) (nI x)) (15 + sA σ) (nI 0)) 1 (nI (sA σ + 1))) := by
  have hwP := hW.P
  have hwA := hW.A
  have hwS := hW.S
  refine ⟨?_, ?_, ?_, ?_, ?_, ?_, ?_, ?_, ?_, ?_⟩
  · rw [pk_un (by omega), pk_un (by omega), pk_un (by omega)]
    exact hR.P
  · exact pk_us
  · rw [pk_un (by omega), pk_un (by omega), pk_un (by omega)]
    exact hR.S
  · intro i hi
    rw [pk_un (by omega), pk_un (by omega), pk_un (by omega)]
    exact hR.O hi
  · intro a ha
    rw [hire_A] at ha
    rw [hire_F, pk_un (by omega), pk_un (by omega)]
    by_cases e : a = sA σ
    · rw [if_pos e, e]; exact pk_us
    · rw [if_neg e, pk_un (by omega)]; exact hR.F (by omega)
  · intro a ha
    rw [hire_A] at ha
    rw [pk_un (by omega)]
    by_cases e : a = sA σ
    · rw [e, pk_us, show bm (fun n => sI (oHire σ x) (sA σ) n) 20 = bm (fun _ => 0) 20 from bm_cong (fun n _ => hW.I0 n (Nat.le_refl _))]; rfl
    · rw [pk_un (by omega), pk_un (by omega)]; exact hR.I (by omega)
  · intro p hp
    rw [pk_un (by omega), pk_un (by omega), pk_un (by omega)]
    exact hR.C hp
  · intro p k hp hk
    rw [pk_un (by omega), pk_un (by omega), pk_un (by omega)]
    exact hR.U hp hk
  · intro p n hp hn
    rw [pk_un (by omega), pk_un (by omega), pk_un (by omega)]
    exact hR.R hp hn
  · intro k j hk hj
    rw [pk_un (by omega), pk_un (by omega), pk_un (by omega)]
    exact hR.L hk hj
theorem RepC_part {σ : Sg} {f : Nat → Int32} (hR : RepC σ f) (hW : Wf σ) (hP : sP σ < 6) : RepC (oPart σ) (castF (upd (upd f 0 (nI (sP σ + 1))) (35 + sP σ) (nI 0)) (65 + sP σ * 20 + 0) (65 + sP σ * 20 + 20) (mI 0)) := by
  have hwP := hW.P
  have hwA := hW.A
  have hwS := hW.S
  refine ⟨?_, ?_, ?_, ?_, ?_, ?_, ?_, ?_, ?_, ?_⟩
  · rw [castF, if_neg (by omega), pk_un (by omega)]; exact pk_us
  · rw [castF, if_neg (by omega), pk_un (by omega), pk_un (by omega)]
    exact hR.A
  · rw [castF, if_neg (by omega), pk_un (by omega), pk_un (by omega)]
    exact hR.S
  · intro i hi
    rw [castF, if_neg (by omega), pk_un (by omega), pk_un (by omega)]
    exact hR.O hi
  · intro a ha
    have ha : a < sA σ := ha
    rw [castF, if_neg (by omega), pk_un (by omega), pk_un (by omega)]
    exact hR.F ha
  · intro n hn
    rw [castF, if_neg (by omega), pk_un (by omega), pk_un (by omega)]
    exact hR.I hn
  · intro p hp
    rw [part_P] at hp
    rw [part_C, castF, if_neg (by omega)]
    by_cases e : p = sP σ
    · rw [if_pos e, e]; exact pk_us
    · rw [if_neg e, pk_un (by omega), pk_un (by omega)]; exact hR.C (by omega)
  · intro p k hp hk
    rw [part_P] at hp
    rw [part_C] at hk
    by_cases e : p = sP σ
    · rw [if_pos e] at hk; omega
    · rw [if_neg e] at hk
      have := hW.C (by omega : p < sP σ)
      rw [castF, if_neg (by omega), pk_un (by omega), pk_un (by omega)]; exact hR.U (by omega) hk
  · intro p n hp hn
    rw [part_P] at hp
    rw [part_R, castF]
    by_cases e : p = sP σ
    · rw [if_pos e, if_pos (by omega)]
    · rw [if_neg e, if_neg (by omega), pk_un (by omega), pk_un (by omega)]; exact hR.R (by omega) hn
  · intro k j hk hj
    have hk : k < sS σ := hk
    rw [castF, if_neg (by omega), pk_un (by omega), pk_un (by omega)]
    exact hR.L hk hj
theorem RepM_part {σ : Sg} {f : Nat → Int32} (hR : RepM σ f) (hW : Wf σ) (hP : sP σ < 6) : RepM (oPart σ) (upd (upd (castF f (25 + 20 * sP σ) (25 + 20 * sP σ + 20) (mI 0)) (145 + 5 * sP σ) (nI 0)) 0 (nI (sP σ + 1))) := by
  have hwP := hW.P
  have hwA := hW.A
  have hwS := hW.S
  refine ⟨?_, ?_, ?_, ?_, ?_, ?_, ?_, ?_, ?_, ?_⟩
  · exact pk_us
  · rw [pk_un (by omega), pk_un (by omega), castF, if_neg (by omega)]
    exact hR.A
  · rw [pk_un (by omega), pk_un (by omega), castF, if_neg (by omega)]
    exact hR.S
  · intro i hi
    rw [pk_un (by omega), pk_un (by omega), castF, if_neg (by omega)]
    exact hR.O hi
  · intro a ha
    have ha : a < sA σ := ha
    rw [pk_un (by omega), pk_un (by omega), castF, if_neg (by omega)]
    exact hR.F ha
  · intro a ha
    have ha : a < sA σ := ha
    rw [pk_un (by omega), pk_un (by omega), castF, if_neg (by omega)]
    exact hR.I ha
  · intro p hp
    rw [part_P] at hp
    rw [part_C, pk_un (by omega)]
    by_cases e : p = sP σ
    · rw [if_pos e, e]; exact pk_us
    · rw [if_neg e, pk_un (by omega), castF, if_neg (by omega)]; exact hR.C (by omega)
  · intro p k hp hk
    rw [part_P] at hp
    rw [part_C] at hk
    by_cases e : p = sP σ
    · rw [if_pos e] at hk; omega
    · rw [if_neg e] at hk
      have := hW.C (by omega : p < sP σ)
      rw [pk_un (by omega), pk_un (by omega), castF, if_neg (by omega)]; exact hR.U (by omega) hk
  · intro p n hp hn
    rw [part_P] at hp
    rw [part_R, pk_un (by omega), pk_un (by omega), castF]
    by_cases e : p = sP σ
    · rw [if_pos e, if_pos (by omega)]
    · rw [if_neg e, if_neg (by omega)]; exact hR.R (by omega) hn
  · intro k j hk hj
    have hk : k < sS σ := hk
    rw [pk_un (by omega), pk_un (by omega), castF, if_neg (by omega)]
    exact hR.L hk hj
theorem RepC_cast {σ : Sg} {f : Nat → Int32} (hR : RepC σ f) (hW : Wf σ) {p x n : Nat} (hp : p < sP σ) (hn : n < 20) : RepC (oCast σ p x n) (castF f (65 + p * 20 + n) (65 + p * 20 + 20) (mI x)) := by
  have hwP := hW.P
  have hwA := hW.A
  have hwS := hW.S
  refine ⟨?_, ?_, ?_, ?_, ?_, ?_, ?_, ?_, ?_, ?_⟩
  · rw [castF, if_neg (by omega)]
    exact hR.P
  · rw [castF, if_neg (by omega)]
    exact hR.A
  · rw [castF, if_neg (by omega)]
    exact hR.S
  · intro i hi
    rw [castF, if_neg (by omega)]
    exact hR.O hi
  · intro a ha
    have ha : a < sA σ := ha
    rw [castF, if_neg (by omega)]
    exact hR.F ha
  · intro n hn
    rw [castF, if_neg (by omega)]
    exact hR.I hn
  · intro p hp
    have hp : p < sP σ := hp
    rw [castF, if_neg (by omega)]
    exact hR.C hp
  · intro p k hp hk
    have hp : p < sP σ := hp
    have hk : k < sC σ p := hk
    have := hW.C hp
    rw [castF, if_neg (by omega)]
    exact hR.U hp hk
  · intro q m hq hm
    have hq : q < sP σ := hq
    rw [cast_R, castF]
    by_cases e : q = p ∧ n ≤ m
    · rw [if_pos e, if_pos (by obtain ⟨e1, e2⟩ := e; subst e1; omega)]
    · rw [if_neg e, if_neg (fun z => e (by omega))]; exact hR.R hq hm
  · intro k j hk hj
    have hk : k < sS σ := hk
    rw [castF, if_neg (by omega)]
    exact hR.L hk hj
theorem RepM_cast {σ : Sg} {f : Nat → Int32} (hR : RepM σ f) (hW : Wf σ) {p x n : Nat} (hp : p < sP σ) (hn : n < 20) : RepM (oCast σ p x n) (castF f (25 + 20 * p + n) (25 + 20 * p + 20) (mI x)) := by
  have hwP := hW.P
  have hwA := hW.A
  have hwS := hW.S
  refine ⟨?_, ?_, ?_, ?_, ?_, ?_, ?_, ?_, ?_, ?_⟩
  · rw [castF, if_neg (by omega)]
    exact hR.P
  · rw [castF, if_neg (by omega)]
    exact hR.A
  · rw [castF, if_neg (by omega)]
    exact hR.S
  · intro i hi
    rw [castF, if_neg (by omega)]
    exact hR.O hi
  · intro a ha
    have ha : a < sA σ := ha
    rw [castF, if_neg (by omega)]
    exact hR.F ha
  · intro a ha
    have ha : a < sA σ := ha
    rw [castF, if_neg (by omega)]
    exact hR.I ha
  · intro p hp
    have hp : p < sP σ := hp
    rw [castF, if_neg (by omega)]
    exact hR.C hp
  · intro p k hp hk
    have hp : p < sP σ := hp
    have hk : k < sC σ p := hk
    have := hW.C hp
    rw [castF, if_neg (by omega)]
    exact hR.U hp hk
  · intro q m hq hm
    have hq : q < sP σ := hq
    rw [cast_R, castF]
    by_cases e : q = p ∧ n ≤ m
    · rw [if_pos e, if_pos (by obtain ⟨e1, e2⟩ := e; subst e1; omega)]
    · rw [if_neg e, if_neg (fun z => e (by omega))]; exact hR.R hq hm
  · intro k j hk hj
    have hk : k < sS σ := hk
    rw [castF, if_neg (by omega)]
    exact hR.L hk hj
theorem RepC_study {σ : Sg} {f : Nat → Int32} (hR : RepC σ f) (hW : Wf σ) {p a : Nat} (hp : p < sP σ) (hC : sC σ p < 4) : RepC (oStudy σ p a) (upd (upd f (41 + p * 4 + sC σ p) (nI a)) (35 + p) (nI (sC σ p + 1))) := by
  have hwP := hW.P
  have hwA := hW.A
  have hwS := hW.S
  refine ⟨?_, ?_, ?_, ?_, ?_, ?_, ?_, ?_, ?_, ?_⟩
  · rw [pk_un (by omega), pk_un (by omega)]
    exact hR.P
  · rw [pk_un (by omega), pk_un (by omega)]
    exact hR.A
  · rw [pk_un (by omega), pk_un (by omega)]
    exact hR.S
  · intro i hi
    rw [pk_un (by omega), pk_un (by omega)]
    exact hR.O hi
  · intro a ha
    have ha : a < sA σ := ha
    rw [pk_un (by omega), pk_un (by omega)]
    exact hR.F ha
  · intro n hn
    rw [pk_un (by omega), pk_un (by omega)]
    exact hR.I hn
  · intro q hq
    have hq : q < sP σ := hq
    rw [study_C]
    by_cases e : q = p
    · subst e; rw [if_pos rfl]; exact pk_us
    · rw [if_neg e, pk_un (by omega), pk_un (by omega)]; exact hR.C hq
  · intro q k hq hk
    have hq : q < sP σ := hq
    rw [study_C] at hk
    rw [study_U]
    by_cases e : q = p ∧ k = sC σ p
    · obtain ⟨e1, e2⟩ := e; subst e1; subst e2; rw [if_pos ⟨rfl, rfl⟩, pk_un (by omega)]; exact pk_us
    · rw [if_neg e]
      by_cases e2 : q = p
      · subst e2
        rw [if_pos rfl] at hk
        have hk : k < sC σ q := by omega
        rw [pk_un (by omega), pk_un (by omega)]; exact hR.U hq hk
      · rw [if_neg e2] at hk
        have := hW.C hq
        rw [pk_un (by omega), pk_un (by omega)]; exact hR.U hq hk
  · intro q n hq hn
    have hq : q < sP σ := hq
    rw [pk_un (by omega), pk_un (by omega)]
    exact hR.R hq hn
  · intro k j hk hj
    have hk : k < sS σ := hk
    rw [pk_un (by omega), pk_un (by omega)]
    exact hR.L hk hj
theorem RepM_study {σ : Sg} {f : Nat → Int32} (hR : RepM σ f) (hW : Wf σ) {p a : Nat} (hp : p < sP σ) (hC : sC σ p < 4) : RepM (oStudy σ p a) (upd (upd f (145 + 5 * p) (nI (sC σ p + 1))) (145 + 5 * p + (sC σ p + 1)) (nI a)) := by
  have hwP := hW.P
  have hwA := hW.A
  have hwS := hW.S
  refine ⟨?_, ?_, ?_, ?_, ?_, ?_, ?_, ?_, ?_, ?_⟩
  · rw [pk_un (by omega), pk_un (by omega)]
    exact hR.P
  · rw [pk_un (by omega), pk_un (by omega)]
    exact hR.A
  · rw [pk_un (by omega), pk_un (by omega)]
    exact hR.S
  · intro i hi
    rw [pk_un (by omega), pk_un (by omega)]
    exact hR.O hi
  · intro a ha
    have ha : a < sA σ := ha
    rw [pk_un (by omega), pk_un (by omega)]
    exact hR.F ha
  · intro a ha
    have ha : a < sA σ := ha
    rw [pk_un (by omega), pk_un (by omega)]
    exact hR.I ha
  · intro q hq
    have hq : q < sP σ := hq
    rw [study_C]
    by_cases e : q = p
    · subst e; rw [if_pos rfl, pk_un (by omega)]; exact pk_us
    · rw [if_neg e, pk_un (by omega), pk_un (by omega)]; exact hR.C hq
  · intro q k hq hk
    have hq : q < sP σ := hq
    rw [study_C] at hk
    rw [study_U]
    by_cases e : q = p ∧ k = sC σ p
    · obtain ⟨e1, e2⟩ := e; subst e1; subst e2; rw [if_pos ⟨rfl, rfl⟩, show 145 + 5 * q + 1 + sC σ q = 145 + 5 * q + (sC σ q + 1) from by omega]; exact pk_us
    · rw [if_neg e]
      by_cases e2 : q = p
      · subst e2
        rw [if_pos rfl] at hk
        have hk : k < sC σ q := by omega
        rw [pk_un (by omega), pk_un (by omega)]; exact hR.U hq hk
      · rw [if_neg e2] at hk
        have := hW.C hq
        rw [pk_un (by omega), pk_un (by omega)]; exact hR.U hq hk
  · intro q n hq hn
    have hq : q < sP σ := hq
    rw [pk_un (by omega), pk_un (by omega)]
    exact hR.R hq hn
  · intro k j hk hj
    have hk : k < sS σ := hk
    rw [pk_un (by omega), pk_un (by omega)]
    exact hR.L hk hj
theorem RepC_rel {σ : Sg} {f : Nat → Int32} (hR : RepC σ f) (hW : Wf σ) {p r : Nat} (hp : p < sP σ) (hr : r < sC σ p) : RepC (oRel σ p r) (upd (shiftF f (41 + p * 4 + r) (41 + p * 4 + 3) 1) (35 + p) (nI (sC σ p - 1))) := by
  have hwP := hW.P
  have hwA := hW.A
  have hwS := hW.S
  have hwc := hW.C hp
  refine ⟨?_, ?_, ?_, ?_, ?_, ?_, ?_, ?_, ?_, ?_⟩
  · rw [pk_un (by omega), shiftF, if_neg (by omega)]
    exact hR.P
  · rw [pk_un (by omega), shiftF, if_neg (by omega)]
    exact hR.A
  · rw [pk_un (by omega), shiftF, if_neg (by omega)]
    exact hR.S
  · intro i hi
    rw [pk_un (by omega), shiftF, if_neg (by omega)]
    exact hR.O hi
  · intro a ha
    have ha : a < sA σ := ha
    rw [pk_un (by omega), shiftF, if_neg (by omega)]
    exact hR.F ha
  · intro n hn
    rw [pk_un (by omega), shiftF, if_neg (by omega)]
    exact hR.I hn
  · intro q hq
    have hq : q < sP σ := hq
    rw [rel_C]
    by_cases e : q = p
    · subst e; rw [if_pos rfl]; exact pk_us
    · rw [if_neg e, pk_un (by omega), shiftF, if_neg (by omega)]; exact hR.C hq
  · intro q k hq hk
    have hq : q < sP σ := hq
    have hwc := hW.C hq
    rw [rel_C] at hk
    rw [rel_U]
    by_cases e : q = p ∧ r ≤ k
    · obtain ⟨e1, e2⟩ := e; subst e1; rw [if_pos rfl] at hk; rw [if_pos ⟨rfl, e2⟩, pk_un (by omega), shiftF, if_pos (by omega)]; exact hR.U (k := k + 1) hq (by omega)
    · rw [if_neg e]
      by_cases e2 : q = p
      · subst e2
        rw [if_pos rfl] at hk
        rw [pk_un (by omega), shiftF, if_neg (by omega)]; exact hR.U hq (by omega)
      · rw [if_neg e2] at hk
        rw [pk_un (by omega), shiftF, if_neg (by omega)]; exact hR.U hq hk
  · intro q n hq hn
    have hq : q < sP σ := hq
    rw [pk_un (by omega), shiftF, if_neg (by omega)]
    exact hR.R hq hn
  · intro k j hk hj
    have hk : k < sS σ := hk
    rw [pk_un (by omega), shiftF, if_neg (by omega)]
    exact hR.L hk hj
theorem RepM_rel {σ : Sg} {f : Nat → Int32} (hR : RepM σ f) (hW : Wf σ) {p r : Nat} (hp : p < sP σ) (hr : r < sC σ p) : RepM (oRel σ p r) (shiftF (upd f (145 + 5 * p) (nI (sC σ p - 1))) (145 + 5 * p + 1 + r) (145 + 5 * p + 1 + (sC σ p - 1)) 1) := by
  have hwP := hW.P
  have hwA := hW.A
  have hwS := hW.S
  have hwc := hW.C hp
  refine ⟨?_, ?_, ?_, ?_, ?_, ?_, ?_, ?_, ?_, ?_⟩
  · rw [shiftF, if_neg (by omega), pk_un (by omega)]
    exact hR.P
  · rw [shiftF, if_neg (by omega), pk_un (by omega)]
    exact hR.A
  · rw [shiftF, if_neg (by omega), pk_un (by omega)]
    exact hR.S
  · intro i hi
    rw [shiftF, if_neg (by omega), pk_un (by omega)]
    exact hR.O hi
  · intro a ha
    have ha : a < sA σ := ha
    rw [shiftF, if_neg (by omega), pk_un (by omega)]
    exact hR.F ha
  · intro a ha
    have ha : a < sA σ := ha
    rw [shiftF, if_neg (by omega), pk_un (by omega)]
    exact hR.I ha
  · intro q hq
    have hq : q < sP σ := hq
    rw [rel_C, shiftF, if_neg (by omega)]
    by_cases e : q = p
    · subst e; rw [if_pos rfl]; exact pk_us
    · rw [if_neg e, pk_un (by omega)]; exact hR.C hq
  · intro q k hq hk
    have hq : q < sP σ := hq
    have hwc := hW.C hq
    rw [rel_C] at hk
    rw [rel_U]
    by_cases e : q = p ∧ r ≤ k
    · obtain ⟨e1, e2⟩ := e; subst e1; rw [if_pos rfl] at hk; rw [if_pos ⟨rfl, e2⟩, shiftF, if_pos (by omega), pk_un (by omega)]; exact hR.U (k := k + 1) hq (by omega)
    · rw [if_neg e]
      by_cases e2 : q = p
      · subst e2
        rw [if_pos rfl] at hk
        rw [shiftF, if_neg (by omega), pk_un (by omega)]; exact hR.U hq (by omega)
      · rw [if_neg e2] at hk
        rw [shiftF, if_neg (by omega), pk_un (by omega)]; exact hR.U hq hk
  · intro q n hq hn
    have hq : q < sP σ := hq
    rw [shiftF, if_neg (by omega), pk_un (by omega)]
    exact hR.R hq hn
  · intro k j hk hj
    have hk : k < sS σ := hk
    rw [shiftF, if_neg (by omega), pk_un (by omega)]
    exact hR.L hk hj
theorem RepC_ill {σ : Sg} {f : Nat → Int32} (hR : RepC σ f) (hW : Wf σ) {a n v : Nat} (hn : n < 20) : RepC (oIll σ a n v) (upd f (15 + n) (nI (bm (fun b => sI (oIll σ a n v) b n) 10))) := by
  have hwP := hW.P
  have hwA := hW.A
  have hwS := hW.S
  refine ⟨?_, ?_, ?_, ?_, ?_, ?_, ?_, ?_, ?_, ?_⟩
  · rw [pk_un (by omega)]
    exact hR.P
  · rw [pk_un (by omega)]
    exact hR.A
  · rw [pk_un (by omega)]
    exact hR.S
  · intro i hi
    rw [pk_un (by omega)]
    exact hR.O hi
  · intro a ha
    have ha : a < sA σ := ha
    rw [pk_un (by omega)]
    exact hR.F ha
  · intro m hm
    by_cases e : m = n
    · subst e; exact pk_us
    · rw [pk_un (by omega), hR.I hm]; exact congrArg nI (bm_cong (fun b _ => by rw [ill_I, if_neg (fun z => e z.2)]))
  · intro q hq
    have hq : q < sP σ := hq
    rw [pk_un (by omega)]
    exact hR.C hq
  · intro q k hq hk
    have hq : q < sP σ := hq
    have hk : k < sC σ q := hk
    have := hW.C hq
    rw [pk_un (by omega)]
    exact hR.U hq hk
  · intro q n hq hn
    have hq : q < sP σ := hq
    rw [pk_un (by omega)]
    exact hR.R hq hn
  · intro k j hk hj
    have hk : k < sS σ := hk
    rw [pk_un (by omega)]
    exact hR.L hk hj
theorem RepM_ill {σ : Sg} {f : Nat → Int32} (hR : RepM σ f) (hW : Wf σ) {a n v : Nat} (ha : a < sA σ) : RepM (oIll σ a n v) (upd f (15 + a) (nI (bm (fun m => sI (oIll σ a n v) a m) 20))) := by
  have hwP := hW.P
  have hwA := hW.A
  have hwS := hW.S
  refine ⟨?_, ?_, ?_, ?_, ?_, ?_, ?_, ?_, ?_, ?_⟩
  · rw [pk_un (by omega)]
    exact hR.P
  · rw [pk_un (by omega)]
    exact hR.A
  · rw [pk_un (by omega)]
    exact hR.S
  · intro i hi
    rw [pk_un (by omega)]
    exact hR.O hi
  · intro a ha
    have ha : a < sA σ := ha
    rw [pk_un (by omega)]
    exact hR.F ha
  · intro b hb
    have hb : b < sA σ := hb
    by_cases e : b = a
    · subst e; exact pk_us
    · rw [pk_un (by omega), hR.I hb]; exact congrArg nI (bm_cong (fun m _ => by rw [ill_I, if_neg (fun z => e z.1)]))
  · intro q hq
    have hq : q < sP σ := hq
    rw [pk_un (by omega)]
    exact hR.C hq
  · intro q k hq hk
    have hq : q < sP σ := hq
    have hk : k < sC σ q := hk
    have := hW.C hq
    rw [pk_un (by omega)]
    exact hR.U hq hk
  · intro q n hq hn
    have hq : q < sP σ := hq
    rw [pk_un (by omega)]
    exact hR.R hq hn
  · intro k j hk hj
    have hk : k < sS σ := hk
    rw [pk_un (by omega)]
    exact hR.L hk hj
theorem RepC_slip {σ : Sg} {f : Nat → Int32} (hR : RepC σ f) (hW : Wf σ) {n p a x : Nat} (hS : sS σ < 20) : RepC (oSlip σ n p a x) (upd (upd (upd (upd (upd f (185 + sS σ * 4) (nI n)) (185 + sS σ * 4 + 1) (nI p)) (185 + sS σ * 4 + 2) (nI a)) (185 + sS σ * 4 + 3) (nI x)) 2 (nI (sS σ + 1))) := by
  have hwP := hW.P
  have hwA := hW.A
  have hwS := hW.S
  refine ⟨?_, ?_, ?_, ?_, ?_, ?_, ?_, ?_, ?_, ?_⟩
  · rw [pk_un (by omega), pk_un (by omega), pk_un (by omega), pk_un (by omega), pk_un (by omega)]
    exact hR.P
  · rw [pk_un (by omega), pk_un (by omega), pk_un (by omega), pk_un (by omega), pk_un (by omega)]
    exact hR.A
  · exact pk_us
  · intro i hi
    rw [pk_un (by omega), pk_un (by omega), pk_un (by omega), pk_un (by omega), pk_un (by omega)]
    exact hR.O hi
  · intro a ha
    have ha : a < sA σ := ha
    rw [pk_un (by omega), pk_un (by omega), pk_un (by omega), pk_un (by omega), pk_un (by omega)]
    exact hR.F ha
  · intro n hn
    rw [pk_un (by omega), pk_un (by omega), pk_un (by omega), pk_un (by omega), pk_un (by omega)]
    exact hR.I hn
  · intro q hq
    have hq : q < sP σ := hq
    rw [pk_un (by omega), pk_un (by omega), pk_un (by omega), pk_un (by omega), pk_un (by omega)]
    exact hR.C hq
  · intro q k hq hk
    have hq : q < sP σ := hq
    have hk : k < sC σ q := hk
    have := hW.C hq
    rw [pk_un (by omega), pk_un (by omega), pk_un (by omega), pk_un (by omega), pk_un (by omega)]
    exact hR.U hq hk
  · intro q n hq hn
    have hq : q < sP σ := hq
    rw [pk_un (by omega), pk_un (by omega), pk_un (by omega), pk_un (by omega), pk_un (by omega)]
    exact hR.R hq hn
  · intro k j hk hj
    rw [slip_S] at hk
    rw [slip_L]
    by_cases e : k = sS σ
    · subst e
      rw [if_pos rfl, pk_un (by omega)]
      rcases (by omega : j = 0 ∨ j = 1 ∨ j = 2 ∨ j = 3) with e | e | e | e <;> subst e
      · rw [pk_un (by omega), pk_un (by omega), pk_un (by omega)]; exact pk_us
      · rw [pk_un (by omega), pk_un (by omega)]; exact pk_us
      · rw [pk_un (by omega)]; exact pk_us
      · exact pk_us
    · rw [if_neg e, pk_un (by omega), pk_un (by omega), pk_un (by omega), pk_un (by omega), pk_un (by omega)]; exact hR.L (by omega) hj
theorem RepM_slip {σ : Sg} {f : Nat → Int32} (hR : RepM σ f) (hW : Wf σ) {n p a x : Nat} (hS : sS σ < 20) : RepM (oSlip σ n p a x) (upd (upd (upd (upd (upd f (175 + 4 * sS σ) (nI n)) (175 + 4 * sS σ + 1) (nI p)) (175 + 4 * sS σ + 2) (nI a)) (175 + 4 * sS σ + 3) (nI x)) 2 (nI (sS σ + 1))) := by
  have hwP := hW.P
  have hwA := hW.A
  have hwS := hW.S
  refine ⟨?_, ?_, ?_, ?_, ?_, ?_, ?_, ?_, ?_, ?_⟩
  · rw [pk_un (by omega), pk_un (by omega), pk_un (by omega), pk_un (by omega), pk_un (by omega)]
    exact hR.P
  · rw [pk_un (by omega), pk_un (by omega), pk_un (by omega), pk_un (by omega), pk_un (by omega)]
    exact hR.A
  · exact pk_us
  · intro i hi
    rw [pk_un (by omega), pk_un (by omega), pk_un (by omega), pk_un (by omega), pk_un (by omega)]
    exact hR.O hi
  · intro a ha
    have ha : a < sA σ := ha
    rw [pk_un (by omega), pk_un (by omega), pk_un (by omega), pk_un (by omega), pk_un (by omega)]
    exact hR.F ha
  · intro a ha
    have ha : a < sA σ := ha
    rw [pk_un (by omega), pk_un (by omega), pk_un (by omega), pk_un (by omega), pk_un (by omega)]
    exact hR.I ha
  · intro q hq
    have hq : q < sP σ := hq
    rw [pk_un (by omega), pk_un (by omega), pk_un (by omega), pk_un (by omega), pk_un (by omega)]
    exact hR.C hq
  · intro q k hq hk
    have hq : q < sP σ := hq
    have hk : k < sC σ q := hk
    have := hW.C hq
    rw [pk_un (by omega), pk_un (by omega), pk_un (by omega), pk_un (by omega), pk_un (by omega)]
    exact hR.U hq hk
  · intro q n hq hn
    have hq : q < sP σ := hq
    rw [pk_un (by omega), pk_un (by omega), pk_un (by omega), pk_un (by omega), pk_un (by omega)]
    exact hR.R hq hn
  · intro k j hk hj
    rw [slip_S] at hk
    rw [slip_L]
    by_cases e : k = sS σ
    · subst e
      rw [if_pos rfl, pk_un (by omega)]
      rcases (by omega : j = 0 ∨ j = 1 ∨ j = 2 ∨ j = 3) with e | e | e | e <;> subst e
      · rw [pk_un (by omega), pk_un (by omega), pk_un (by omega)]; exact pk_us
      · rw [pk_un (by omega), pk_un (by omega)]; exact pk_us
      · rw [pk_un (by omega)]; exact pk_us
      · exact pk_us
    · rw [if_neg e, pk_un (by omega), pk_un (by omega), pk_un (by omega), pk_un (by omega), pk_un (by omega)]; exact hR.L (by omega) hj
theorem RepC_lose {σ : Sg} {f : Nat → Int32} (hR : RepC σ f) (hW : Wf σ) {k : Nat} (hk : k < sS σ) : RepC (oLose σ k) (upd (shiftF f (185 + k * 4) 261 4) 2 (nI (sS σ - 1))) := by
  have hwP := hW.P
  have hwA := hW.A
  have hwS := hW.S
  refine ⟨?_, ?_, ?_, ?_, ?_, ?_, ?_, ?_, ?_, ?_⟩
  · rw [pk_un (by omega), shiftF, if_neg (by omega)]
    exact hR.P
  · rw [pk_un (by omega), shiftF, if_neg (by omega)]
    exact hR.A
  · exact pk_us
  · intro i hi
    rw [pk_un (by omega), shiftF, if_neg (by omega)]
    exact hR.O hi
  · intro a ha
    have ha : a < sA σ := ha
    rw [pk_un (by omega), shiftF, if_neg (by omega)]
    exact hR.F ha
  · intro n hn
    rw [pk_un (by omega), shiftF, if_neg (by omega)]
    exact hR.I hn
  · intro q hq
    have hq : q < sP σ := hq
    rw [pk_un (by omega), shiftF, if_neg (by omega)]
    exact hR.C hq
  · intro q k hq hk
    have hq : q < sP σ := hq
    have hk : k < sC σ q := hk
    have := hW.C hq
    rw [pk_un (by omega), shiftF, if_neg (by omega)]
    exact hR.U hq hk
  · intro q n hq hn
    have hq : q < sP σ := hq
    rw [pk_un (by omega), shiftF, if_neg (by omega)]
    exact hR.R hq hn
  · intro i j hi hj
    rw [lose_S] at hi
    rw [lose_L, pk_un (by omega)]
    by_cases e : k ≤ i
    · rw [if_pos e, shiftF, if_pos (by omega), show 185 + i * 4 + j + 4 = 185 + (i + 1) * 4 + j from by omega]; exact hR.L (by omega) hj
    · rw [if_neg e, shiftF, if_neg (by omega)]; exact hR.L (by omega) hj
theorem RepM_lose {σ : Sg} {f : Nat → Int32} (hR : RepM σ f) (hW : Wf σ) {k : Nat} (hk : k < sS σ) : RepM (oLose σ k) (shiftF (upd f 2 (nI (sS σ - 1))) (175 + 4 * k) (175 + 4 * (sS σ - 1)) 4) := by
  have hwP := hW.P
  have hwA := hW.A
  have hwS := hW.S
  refine ⟨?_, ?_, ?_, ?_, ?_, ?_, ?_, ?_, ?_, ?_⟩
  · rw [shiftF, if_neg (by omega), pk_un (by omega)]
    exact hR.P
  · rw [shiftF, if_neg (by omega), pk_un (by omega)]
    exact hR.A
  · rw [shiftF, if_neg (by omega)]; exact pk_us
  · intro i hi
    rw [shiftF, if_neg (by omega), pk_un (by omega)]
    exact hR.O hi
  · intro a ha
    have ha : a < sA σ := ha
    rw [shiftF, if_neg (by omega), pk_un (by omega)]
    exact hR.F ha
  · intro a ha
    have ha : a < sA σ := ha
    rw [shiftF, if_neg (by omega), pk_un (by omega)]
    exact hR.I ha
  · intro q hq
    have hq : q < sP σ := hq
    rw [shiftF, if_neg (by omega), pk_un (by omega)]
    exact hR.C hq
  · intro q k hq hk
    have hq : q < sP σ := hq
    have hk : k < sC σ q := hk
    have := hW.C hq
    rw [shiftF, if_neg (by omega), pk_un (by omega)]
    exact hR.U hq hk
  · intro q n hq hn
    have hq : q < sP σ := hq
    rw [shiftF, if_neg (by omega), pk_un (by omega)]
    exact hR.R hq hn
  · intro i j hi hj
    rw [lose_S] at hi
    rw [lose_L]
    by_cases e : k ≤ i
    · rw [if_pos e, shiftF, if_pos (by omega), pk_un (by omega), show 175 + 4 * i + j + 4 = 175 + 4 * (i + 1) + j from by omega]; exact hR.L (by omega) hj
    · rw [if_neg e, shiftF, if_neg (by omega), pk_un (by omega)]; exact hR.L (by omega) hj
theorem RepC_set {σ : Sg} {f : Nat → Int32} (hR : RepC σ f) (hW : Wf σ) {w v : Nat} (hw : w < 2) : RepC (oSet σ w v) (upd f (3 + w) (nI v)) := by
  have hwP := hW.P
  have hwA := hW.A
  have hwS := hW.S
  refine ⟨?_, ?_, ?_, ?_, ?_, ?_, ?_, ?_, ?_, ?_⟩
  · rw [pk_un (by omega)]
    exact hR.P
  · rw [pk_un (by omega)]
    exact hR.A
  · rw [pk_un (by omega)]
    exact hR.S
  · intro i hi
    rw [set_O]
    by_cases e : i = w
    · subst e; rw [if_pos rfl]; exact pk_us
    · rw [if_neg e, pk_un (by omega)]; exact hR.O hi
  · intro a ha
    have ha : a < sA σ := ha
    rw [pk_un (by omega)]
    exact hR.F ha
  · intro n hn
    rw [pk_un (by omega)]
    exact hR.I hn
  · intro q hq
    have hq : q < sP σ := hq
    rw [pk_un (by omega)]
    exact hR.C hq
  · intro q k hq hk
    have hq : q < sP σ := hq
    have hk : k < sC σ q := hk
    have := hW.C hq
    rw [pk_un (by omega)]
    exact hR.U hq hk
  · intro q n hq hn
    have hq : q < sP σ := hq
    rw [pk_un (by omega)]
    exact hR.R hq hn
  · intro k j hk hj
    have hk : k < sS σ := hk
    rw [pk_un (by omega)]
    exact hR.L hk hj
theorem RepC_0 (f : Nat → Int32) : RepC o0 (upd (upd (castF f 0 265 (nI 0)) 3 (nI 20)) 4 (nI 3)) := by
  refine ⟨?_, ?_, ?_, ?_, ?_, ?_, ?_, ?_, ?_, ?_⟩
  · rw [pk_un (by decide), pk_un (by decide), castF, if_pos (by decide)]; rfl
  · rw [pk_un (by decide), pk_un (by decide), castF, if_pos (by decide)]; rfl
  · rw [pk_un (by decide), pk_un (by decide), castF, if_pos (by decide)]; rfl
  · intro i hi
    rcases (by omega : i = 0 ∨ i = 1) with e | e <;> subst e
    · rw [pk_un (by decide)]; exact pk_us
    · exact pk_us
  · intro a ha; exact absurd ha (Nat.not_lt_zero _)
  · intro n hn; rw [pk_un (by omega), pk_un (by omega), castF, if_pos (by omega)]; exact congrArg nI (by simp [bm, sI, o0])
  · intro p hp; exact absurd hp (Nat.not_lt_zero _)
  · intro p k hp; exact absurd hp (Nat.not_lt_zero _)
  · intro p n hp; exact absurd hp (Nat.not_lt_zero _)
  · intro k j hk; exact absurd hk (Nat.not_lt_zero _)
theorem RepM_set {σ : Sg} {f : Nat → Int32} (hR : RepM σ f) (hW : Wf σ) {w v : Nat} (hw : w < 2) : RepM (oSet σ w v) (upd f (3 + w) (nI v)) := by
  have hwP := hW.P
  have hwA := hW.A
  have hwS := hW.S
  refine ⟨?_, ?_, ?_, ?_, ?_, ?_, ?_, ?_, ?_, ?_⟩
  · rw [pk_un (by omega)]
    exact hR.P
  · rw [pk_un (by omega)]
    exact hR.A
  · rw [pk_un (by omega)]
    exact hR.S
  · intro i hi
    rw [set_O]
    by_cases e : i = w
    · subst e; rw [if_pos rfl]; exact pk_us
    · rw [if_neg e, pk_un (by omega)]; exact hR.O hi
  · intro a ha
    have ha : a < sA σ := ha
    rw [pk_un (by omega)]
    exact hR.F ha
  · intro a ha
    have ha : a < sA σ := ha
    rw [pk_un (by omega)]
    exact hR.I ha
  · intro q hq
    have hq : q < sP σ := hq
    rw [pk_un (by omega)]
    exact hR.C hq
  · intro q k hq hk
    have hq : q < sP σ := hq
    have hk : k < sC σ q := hk
    have := hW.C hq
    rw [pk_un (by omega)]
    exact hR.U hq hk
  · intro q n hq hn
    have hq : q < sP σ := hq
    rw [pk_un (by omega)]
    exact hR.R hq hn
  · intro k j hk hj
    have hk : k < sS σ := hk
    rw [pk_un (by omega)]
    exact hR.L hk hj
theorem RepM_0 (f : Nat → Int32) : RepM o0 (upd (upd (castF f 0 255 (nI 0)) 3 (nI 20)) 4 (nI 3)) := by
  refine ⟨?_, ?_, ?_, ?_, ?_, ?_, ?_, ?_, ?_, ?_⟩
  · rw [pk_un (by decide), pk_un (by decide), castF, if_pos (by decide)]; rfl
  · rw [pk_un (by decide), pk_un (by decide), castF, if_pos (by decide)]; rfl
  · rw [pk_un (by decide), pk_un (by decide), castF, if_pos (by decide)]; rfl
  · intro i hi
    rcases (by omega : i = 0 ∨ i = 1) with e | e <;> subst e
    · rw [pk_un (by decide)]; exact pk_us
    · exact pk_us
  · intro a ha; exact absurd ha (Nat.not_lt_zero _)
  · intro a ha; exact absurd ha (Nat.not_lt_zero _)
  · intro p hp; exact absurd hp (Nat.not_lt_zero _)
  · intro p k hp; exact absurd hp (Nat.not_lt_zero _)
  · intro p n hp; exact absurd hp (Nat.not_lt_zero _)
  · intro k j hk; exact absurd hk (Nat.not_lt_zero _)
theorem rk_at {σ : Sg} {p a : Nat} (h : rk σ p a ≠ 0) : rk σ p a - 1 < sC σ p := by
  unfold rk at h ⊢
  split at h
  · rename_i z; rw [if_pos z]; omega
  · exact absurd rfl h
