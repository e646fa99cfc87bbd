/-! what the actions make of a state, and of the rows -/
def castF (f : Nat → Int32) (lo hi : Nat) (v : Int32) : Nat → Int32 := fun j => if lo ≤ j ∧ j < hi then v else f j
def shiftF (f : Nat → Int32) (lo hi d : Nat) : Nat → Int32 := fun j => if lo ≤ j ∧ j < hi then f (j + d) else f j
theorem castF_0 (f : Nat → Int32) (lo : Nat) (v : Int32) : f = castF f lo lo v := funext fun j => (if_neg (by omega)).symm
theorem castF_s {f : Nat → Int32} {lo hi : Nat} {v : Int32} (h : lo ≤ hi) : upd (castF f lo hi v) hi v = castF f lo (hi + 1) v := funext fun j => by
  unfold upd castF
  by_cases h1 : j = hi
  · rw [if_pos h1, if_pos (by omega)]
  · rw [if_neg h1]
    by_cases h2 : lo ≤ j ∧ j < hi
    · rw [if_pos h2, if_pos (by omega)]
    · rw [if_neg h2, if_neg (by omega)]
theorem shiftF_0 (f : Nat → Int32) (lo d : Nat) : f = shiftF f lo lo d := funext fun j => (if_neg (by omega)).symm
theorem shiftF_at {f : Nat → Int32} {lo hi d j : Nat} (h : hi ≤ j) : shiftF f lo hi d j = f j := if_neg (by omega)
theorem shiftF_s {f : Nat → Int32} {lo hi d : Nat} (h : lo ≤ hi) : upd (shiftF f lo hi d) hi (f (hi + d)) = shiftF f lo (hi + 1) d := funext fun j => by
  unfold upd shiftF
  by_cases h1 : j = hi
  · rw [if_pos h1, if_pos (by omega), h1]
  · rw [if_neg h1]
    by_cases h2 : lo ≤ j ∧ j < hi
    · rw [if_pos h2, if_pos (by omega)]
    · rw [if_neg h2, if_neg (by omega)]
def o0 : Sg := fun t i _ => if t = 3 then (if i = 0 then 20 else 3) else 0
def oHire (σ : Sg) (x : Nat) : Sg := fun t i j => if t = 4 ∧ i = sA σ then x else if t = 1 then sA σ + 1 else σ t i j
def oPart (σ : Sg) : Sg := fun t i j => if t = 0 then sP σ + 1 else if t = 7 ∧ i = sP σ then 0 else if t = 6 ∧ i = sP σ then 0 else σ t i j
def oCast (σ : Sg) (p x n : Nat) : Sg := fun t i j => if t = 6 ∧ i = p ∧ n ≤ j then x else σ t i j
def oStudy (σ : Sg) (p a : Nat) : Sg := fun t i j => if t = 8 ∧ i = p ∧ j = sC σ p then a else if t = 7 ∧ i = p then sC σ p + 1 else σ t i j
def oRel (σ : Sg) (p r : Nat) : Sg := fun t i j => if t = 8 ∧ i = p ∧ r ≤ j then σ 8 i (j + 1) else if t = 7 ∧ i = p then sC σ p - 1 else σ t i j
def oIll (σ : Sg) (a n v : Nat) : Sg := fun t i j => if t = 5 ∧ i = a ∧ j = n then v else σ t i j
def oSlip (σ : Sg) (n p a h : Nat) : Sg := fun t i j => if t = 9 ∧ i = sS σ then (if j = 0 then n else if j = 1 then p else if j = 2 then a else h) else if t = 2 then sS σ + 1 else σ t i j
def oLose (σ : Sg) (k : Nat) : Sg := fun t i j => if t = 9 ∧ k ≤ i then σ 9 (i + 1) j else if t = 2 then sS σ - 1 else σ t i j
def oSet (σ : Sg) (w v : Nat) : Sg := fun t i j => if t = 3 ∧ i = w then v else σ t i j
def tHire (σ : Sg) (x : Nat) : Sg := if x ≤ 9 ∧ sA σ < 10 then oHire σ x else σ
def tPart (σ : Sg) : Sg := if sP σ < 6 then oPart σ else σ
def tCast (σ : Sg) (p x n : Nat) : Sg := if p < sP σ ∧ n < 20 ∧ x ≤ sA σ then oCast σ p x n else σ
def tStudy (σ : Sg) (p a : Nat) : Sg := if p < sP σ ∧ a < sA σ ∧ sC σ p < 4 ∧ rk σ p a = 0 then oStudy σ p a else σ
def tRel (σ : Sg) (p a : Nat) : Sg := if p < sP σ ∧ a < sA σ ∧ rk σ p a ≠ 0 then oRel σ p (rk σ p a - 1) else σ
def tIll (σ : Sg) (a n v : Nat) : Sg := if a < sA σ ∧ n < 20 then oIll σ a n v else σ
def tSlip (σ : Sg) (n p a h : Nat) : Sg := if n < 20 ∧ p < sP σ ∧ a < sA σ ∧ h < 24 ∧ sS σ < 20 then oSlip σ n p a h else σ
def tLose (σ : Sg) (k : Nat) : Sg := if k < sS σ then oLose σ k else σ
section WF
variable {σ : Sg}
theorem Wf_mk {σ : Sg} (h1 : sP σ ≤ 6) (h2 : sA σ ≤ 10) (h3 : sS σ ≤ 20) (h4 : sO σ 0 ≤ 99) (h5 : sO σ 1 ≤ 9) (h6 : ∀ a, a < sA σ → sF σ a ≤ 9) (h7 : ∀ a n, sI σ a n ≤ 1) (h8 : ∀ a n, sA σ ≤ a → sI σ a n = 0) (h9 : ∀ p n, p < sP σ → n < 20 → sR σ p n ≤ sA σ) (h10 : ∀ p, p < sP σ → sC σ p ≤ 4) (h11 : ∀ p k, p < sP σ → k < sC σ p → sU σ p k < sA σ) (h12 : ∀ k, k < sS σ → sL σ k 0 < 20 ∧ sL σ k 1 < sP σ ∧ sL σ k 2 < sA σ ∧ sL σ k 3 < 24) : Wf σ := ⟨h1, h2, h3, h4, h5, h6, h7, h8, h9, h10, h11, h12⟩
theorem o0_wf : Wf o0 := by
  refine Wf_mk ?_ ?_ ?_ ?_ ?_ ?_ ?_ ?_ ?_ ?_ ?_ ?_
  all_goals simp [o0, sP, sA, sS, sO, sF, sI, sR, sC, sU, sL]
theorem hire_A (x : Nat) : sA (oHire σ x) = sA σ + 1 := rfl
theorem hire_F (x a : Nat) : sF (oHire σ x) a = if a = sA σ then x else sF σ a := by simp [sF, oHire]
theorem oHire_wf {x : Nat} (h : Wf σ) (hx : x ≤ 9) (hA : sA σ < 10) : Wf (oHire σ x) := by
  refine Wf_mk h.P (by rw [hire_A]; omega) h.S h.O0 h.O1 ?_ h.I ?_ ?_ (fun p hp => h.C hp) ?_ ?_
  · intro a ha
    rw [hire_A] at ha
    rw [hire_F]
    split
    · exact hx
    · exact h.F (by omega)
  · intro a n ha
    rw [hire_A] at ha
    exact h.I0 n (by omega)
  · intro p n hp hn
    rw [hire_A]
    exact Nat.le_succ_of_le (h.R hp hn)
  · intro p k hp hk
    rw [hire_A]
    exact Nat.lt_succ_of_lt (h.U hp hk)
  · intro k hk
    obtain ⟨a1, a2, a3, a4⟩ := h.L hk
    exact ⟨a1, a2, by rw [hire_A]; exact Nat.lt_succ_of_lt a3, a4⟩
theorem part_P : sP (oPart σ) = sP σ + 1 := rfl
theorem part_C (p : Nat) : sC (oPart σ) p = if p = sP σ then 0 else sC σ p := by simp [sC, oPart]
theorem part_R (p n : Nat) : sR (oPart σ) p n = if p = sP σ then 0 else sR σ p n := by simp [sR, oPart]
theorem oPart_wf (h : Wf σ) (hP : sP σ < 6) : Wf (oPart σ) := by
  refine Wf_mk (by rw [part_P]; omega) h.A h.S h.O0 h.O1 h.2.2.2.2.2.1 h.I (fun a n ha => h.I0 n ha) ?_ ?_ ?_ ?_
  · intro p n hp hn
    rw [part_P] at hp
    rw [part_R]
    split
    · exact Nat.zero_le _
    · exact h.R (by omega) hn
  · intro p hp
    rw [part_P] at hp
    rw [part_C]
    split
    · exact Nat.zero_le _
    · exact h.C (by omega)
  · intro p k hp hk
    rw [part_P] at hp
    rw [part_C] at hk
    split at hk
    · omega
    · exact h.U (by omega) hk
  · intro k hk
    obtain ⟨a1, a2, a3, a4⟩ := h.L hk
    exact ⟨a1, by rw [part_P]; exact Nat.lt_succ_of_lt a2, a3, a4⟩
theorem cast_R (p x n q m : Nat) : sR (oCast σ p x n) q m = if q = p ∧ n ≤ m then x else sR σ q m := by simp [sR, oCast]
theorem oCast_wf {p x n : Nat} (h : Wf σ) (hx : x ≤ sA σ) : Wf (oCast σ p x n) := by
  refine Wf_mk h.P h.A h.S h.O0 h.O1 h.2.2.2.2.2.1 h.I (fun a n ha => h.I0 n ha) ?_ (fun p hp => h.C hp) (fun p k hp hk => h.U hp hk) (fun k hk => h.L hk)
  intro q m hq hm
  rw [cast_R]
  split
  · exact hx
  · exact h.R hq hm
theorem study_C (p a q : Nat) : sC (oStudy σ p a) q = if q = p then sC σ p + 1 else sC σ q := by simp [sC, oStudy]
theorem study_U (p a q k : Nat) : sU (oStudy σ p a) q k = if q = p ∧ k = sC σ p then a else sU σ q k := by simp [sU, oStudy]
theorem oStudy_wf {p a : Nat} (h : Wf σ) (ha : a < sA σ) (hC : sC σ p < 4) : Wf (oStudy σ p a) := by
  refine Wf_mk h.P h.A h.S h.O0 h.O1 h.2.2.2.2.2.1 h.I (fun a n ha => h.I0 n ha) (fun p n hp hn => h.R hp hn) ?_ ?_ (fun k hk => h.L hk)
  · intro q hq
    rw [study_C]
    split
    · omega
    · exact h.C hq
  · intro q k hq hk
    rw [study_C] at hk
    rw [study_U]
    split
    · exact ha
    · rename_i z
      split at hk
      · rename_i e
        subst e
        exact h.U hq (by omega)
      · exact h.U hq hk
theorem rel_C (p r q : Nat) : sC (oRel σ p r) q = if q = p then sC σ p - 1 else sC σ q := by simp [sC, oRel]
theorem rel_U (p r q k : Nat) : sU (oRel σ p r) q k = if q = p ∧ r ≤ k then sU σ q (k + 1) else sU σ q k := by simp [sU, oRel]
theorem oRel_wf {p r : Nat} (h : Wf σ) : Wf (oRel σ p r) := by
  refine Wf_mk h.P h.A h.S h.O0 h.O1 h.2.2.2.2.2.1 h.I (fun a n ha => h.I0 n ha) (fun p n hp hn => h.R hp hn) ?_ ?_ (fun k hk => h.L hk)
  · intro q hq
    rw [rel_C]
    split
    · rename_i e
      subst e
      have := h.C hq
      omega
    · exact h.C hq
  · intro q k hq hk
    rw [rel_C] at hk
    rw [rel_U]
    split
    · rename_i z
      rw [if_pos z.1] at hk
      have e := z.1
      subst e
      exact h.U hq (by omega)
    · split at hk
      · rename_i e
        subst e
        exact h.U hq (by omega)
      · exact h.U hq hk
theorem ill_I (a n v b m : Nat) : sI (oIll σ a n v) b m = if b = a ∧ m = n then v else sI σ b m := by simp [sI, oIll]
theorem oIll_wf {a n v : Nat} (h : Wf σ) (hv : v ≤ 1) (ha : a < sA σ) : Wf (oIll σ a n v) := by
  refine Wf_mk h.P h.A h.S h.O0 h.O1 h.2.2.2.2.2.1 ?_ ?_ (fun p n hp hn => h.R hp hn) (fun p hp => h.C hp) (fun p k hp hk => h.U hp hk) (fun k hk => h.L hk)
  · intro b m
    rw [ill_I]
    split
    · exact hv
    · exact h.I b m
  · intro b m hb
    have hb : sA σ ≤ b := hb
    rw [ill_I, if_neg (by omega)]
    exact h.I0 m hb
theorem slip_S (n p a x : Nat) : sS (oSlip σ n p a x) = sS σ + 1 := rfl
theorem slip_L (n p a x k j : Nat) : sL (oSlip σ n p a x) k j = if k = sS σ then (if j = 0 then n else if j = 1 then p else if j = 2 then a else x) else sL σ k j := by simp [sL, oSlip]
theorem oSlip_wf {n p a x : Nat} (h : Wf σ) (hn : n < 20) (hp : p < sP σ) (ha : a < sA σ) (hx : x < 24) (hS : sS σ < 20) : Wf (oSlip σ n p a x) := by
  refine Wf_mk h.P h.A (by rw [slip_S]; omega) h.O0 h.O1 h.2.2.2.2.2.1 h.I (fun a n ha => h.I0 n ha) (fun p n hp hn => h.R hp hn) (fun p hp => h.C hp) (fun p k hp hk => h.U hp hk) ?_
  intro k hk
  rw [slip_S] at hk
  simp only [slip_L]
  by_cases e : k = sS σ
  · simp only [e, if_true]
    exact ⟨hn, hp, ha, hx⟩
  · simp only [e, if_false]
    exact h.L (by omega)
theorem lose_S (k : Nat) : sS (oLose σ k) = sS σ - 1 := rfl
theorem lose_L (k i j : Nat) : sL (oLose σ k) i j = if k ≤ i then sL σ (i + 1) j else sL σ i j := by simp [sL, oLose]
theorem oLose_wf {k : Nat} (h : Wf σ) : Wf (oLose σ k) := by
  refine Wf_mk h.P h.A (by rw [lose_S]; have := h.S; omega) h.O0 h.O1 h.2.2.2.2.2.1 h.I (fun a n ha => h.I0 n ha) (fun p n hp hn => h.R hp hn) (fun p hp => h.C hp) (fun p k hp hk => h.U hp hk) ?_
  intro i hi
  rw [lose_S] at hi
  simp only [lose_L]
  split
  · exact h.L (by omega)
  · exact h.L (by omega)
theorem set_O (w v i : Nat) : sO (oSet σ w v) i = if i = w then v else sO σ i := by simp [sO, oSet]
theorem oSet_wf {w v : Nat} (h : Wf σ) (h0 : w = 0 → v ≤ 99) (h1 : w = 1 → v ≤ 9) : Wf (oSet σ w v) := by
  refine Wf_mk h.P h.A h.S ?_ ?_ h.2.2.2.2.2.1 h.I (fun a n ha => h.I0 n ha) (fun p n hp hn => h.R hp hn) (fun p hp => h.C hp) (fun p k hp hk => h.U hp hk) (fun k hk => h.L hk)
  · rw [set_O]
    split
    · exact h0 (by omega)
    · exact h.O0
  · rw [set_O]
    split
    · exact h1 (by omega)
    · exact h.O1
theorem tHire_wf {x : Nat} (h : Wf σ) : Wf (tHire σ x) := by unfold tHire; split <;> first | exact h | (rename_i z; exact oHire_wf h z.1 z.2)
theorem tPart_wf (h : Wf σ) : Wf (tPart σ) := by unfold tPart; split <;> first | exact h | (rename_i z; exact oPart_wf h z)
theorem tCast_wf {p x n : Nat} (h : Wf σ) : Wf (tCast σ p x n) := by unfold tCast; split <;> first | exact h | (rename_i z; exact oCast_wf h z.2.2)
theorem tStudy_wf {p a : Nat} (h : Wf σ) : Wf (tStudy σ p a) := by unfold tStudy; split <;> first | exact h | (rename_i z; exact oStudy_wf h z.2.1 z.2.2.1)
theorem tRel_wf {p a : Nat} (h : Wf σ) : Wf (tRel σ p a) := by unfold tRel; split <;> first | exact h | exact oRel_wf h
theorem tIll_wf {a n v : Nat} (h : Wf σ) (hv : v ≤ 1) : Wf (tIll σ a n v) := by unfold tIll; split <;> first | exact h | (rename_i z; exact oIll_wf h hv z.1)
theorem tSlip_wf {n p a x : Nat} (h : Wf σ) : Wf (tSlip σ n p a x) := by unfold tSlip; split <;> first | exact h | (rename_i z; exact oSlip_wf h z.1 z.2.1 z.2.2.1 z.2.2.2.1 z.2.2.2.2)
theorem tLose_wf {k : Nat} (h : Wf σ) : Wf (tLose σ k) := by unfold tLose; split <;> first | exact h | exact oLose_wf h
end WF
