def HistM (hs : Nat → Sg) (ac : Nat) (D : Nat → Int32) : Prop := ac ≤ 14 ∧ ∀ k, k < ac → Wf (hs k) ∧ RepM (hs k) (fun j => D (255 * k + j))
def pushN (ac : Nat) : Nat := if ac = 14 then 14 else ac + 1
def pushH (hs : Nat → Sg) (ac : Nat) (σ : Sg) : Nat → Sg := if ac = 14 then (fun k => if k = 13 then σ else hs (k + 1)) else (fun k => if k = ac then σ else hs k)
theorem HistM_p {hs : Nat → Sg} {ac : Nat} {D g : Nat → Int32} {σ : Sg} (h : HistM hs ac D) (hne : ac ≠ 14) (hW : Wf σ) (hR : RepM σ g) : HistM (pushH hs ac σ) (ac + 1) (va_cpy g D 0 (255 * ac) 255) := by
  have h1 := h.1
  refine ⟨by omega, fun k hk => ?_⟩
  unfold pushH
  rw [if_neg hne]
  by_cases e : k = ac
  · rw [if_pos e]
    refine ⟨hW, RepM_eq hW hR (fun j hj => ?_)⟩
    show va_cpy g D 0 (255 * ac) 255 (255 * k + j) = g j
    unfold va_cpy
    rw [if_pos (by omega)]; congr 1; omega
  · rw [if_neg e]
    obtain ⟨h2, h3⟩ := h.2 k (by omega)
    refine ⟨h2, RepM_eq h2 h3 (fun j hj => ?_)⟩
    show va_cpy g D 0 (255 * ac) 255 (255 * k + j) = D (255 * k + j)
    unfold va_cpy
    rw [if_neg (by omega)]
theorem HistM_s {hs : Nat → Sg} {D g : Nat → Int32} {σ : Sg} (h : HistM hs 14 D) (hW : Wf σ) (hR : RepM σ g) : HistM (pushH hs 14 σ) 14 (va_cpy g (shiftF D 0 3315 255) 0 3315 255) := by
  refine ⟨Nat.le_refl _, fun k hk => ?_⟩
  unfold pushH
  rw [if_pos rfl]
  by_cases e : k = 13
  · rw [if_pos e]
    refine ⟨hW, RepM_eq hW hR (fun j hj => ?_)⟩
    show va_cpy g (shiftF D 0 3315 255) 0 3315 255 (255 * k + j) = g j
    unfold va_cpy
    rw [if_pos (by omega), show 0 + (255 * k + j - 3315) = j from by omega]
  · rw [if_neg e]
    obtain ⟨h2, h3⟩ := h.2 (k + 1) (by omega)
    refine ⟨h2, RepM_eq h2 h3 (fun j hj => ?_)⟩
    show va_cpy g (shiftF D 0 3315 255) 0 3315 255 (255 * k + j) = D (255 * (k + 1) + j)
    unfold va_cpy shiftF
    rw [if_neg (by omega), if_pos (by omega)]; congr 1; omega
theorem pushN_le (ac : Nat) (h : ac ≤ 14) : pushN ac ≤ 14 := by unfold pushN; split <;> omega
