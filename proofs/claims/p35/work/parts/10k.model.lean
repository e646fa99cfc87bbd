theorem bp_ne0 {p : Prop} [Decidable p] : bP p ≠ nI 0 ↔ p := by
  by_cases h : p
  · rw [bP, if_pos h]; exact ⟨fun _ => h, fun _ => by decide⟩
  · rw [bP, if_neg h]; exact ⟨fun z => absurd rfl z, fun z => absurd z h⟩
theorem bp_ne1 {p : Prop} [Decidable p] : bP p ≠ nI 1 ↔ ¬ p := by
  by_cases h : p
  · rw [bP, if_pos h]; exact ⟨fun z => absurd rfl z, fun z => absurd h z⟩
  · rw [bP, if_neg h]; exact ⟨fun _ => h, fun _ => by decide⟩
/-! a command of a script: what it makes of the trial, and whether it does -/
def cmS (σ : Sg) (h f : Nat) : Sg :=
  if h = 1 then tCast σ (f / 1000) (f / 100 % 10 + 1) (f % 100)
  else if h = 2 then (if f % 100 = 0 then tStudy σ (f / 1000) (f / 100 % 10) else σ)
  else if h = 3 then (if f % 100 = 0 then tRel σ (f / 1000) (f / 100 % 10) else σ)
  else if h = 4 then (if f % 10 < 2 then tIll σ (f / 1000) (f / 10 % 100) (f % 10) else σ)
  else if h = 5 then tSlip σ (f / 100) (f / 10 % 10) (f % 10) 12
  else if h = 6 then (if f % 100 = 0 then tLose σ (f / 100) else σ)
  else σ
abbrev cmP (σ : Sg) (h f : Nat) : Prop :=
  if h = 1 then f / 1000 < sP σ ∧ f % 100 < 20 ∧ f / 100 % 10 + 1 ≤ sA σ
  else if h = 2 then f % 100 = 0 ∧ (f / 1000 < sP σ ∧ f / 100 % 10 < sA σ ∧ sC σ (f / 1000) < 4 ∧ rk σ (f / 1000) (f / 100 % 10) = 0)
  else if h = 3 then f % 100 = 0 ∧ (f / 1000 < sP σ ∧ f / 100 % 10 < sA σ ∧ rk σ (f / 1000) (f / 100 % 10) ≠ 0)
  else if h = 4 then f % 10 < 2 ∧ (f / 1000 < sA σ ∧ f / 10 % 100 < 20)
  else if h = 5 then f / 100 < 20 ∧ f / 10 % 10 < sP σ ∧ f % 10 < sA σ ∧ 12 < 24 ∧ sS σ < 20
  else if h = 6 then f % 100 = 0 ∧ f / 100 < sS σ
  else if h = 7 then f / 100 < 20 ∧ f / 10 % 10 < sP σ ∧ f % 10 < sA σ ∧ ply σ (f / 100) (f % 10) = f / 10 % 10 + 1
  else if h = 8 then f % 100 < 2 ∧ f / 100 < 20 ∧ dk σ (f / 100) = f % 10
  else if h = 9 then f / 100 = 0 ∧ dkS σ 20 ≤ f % 100
  else False
def cmN (σ : Sg) (h f : Nat) : Nat := if cmP σ h f then 1 else 0
theorem cmS_wf {σ : Sg} (hW : Wf σ) (h f : Nat) : Wf (cmS σ h f) := by
  unfold cmS
  split; exact tCast_wf hW
  split; split; exact tStudy_wf hW; exact hW
  split; split; exact tRel_wf hW; exact hW
  split; split; exact tIll_wf hW (by omega); exact hW
  split; exact tSlip_wf hW
  split; split; exact tLose_wf hW; exact hW
  exact hW
theorem cmN_le (σ : Sg) (h f : Nat) : cmN σ h f ≤ 1 := by unfold cmN; split <;> omega
theorem cm_y {σ : Sg} {h f : Nat} (z : cmP σ h f) : nI 1 = nI (cmN σ h f) := congrArg nI (if_pos z).symm
theorem cm_n {σ : Sg} {h f : Nat} (z : ¬ cmP σ h f) : nI 0 = nI (cmN σ h f) := congrArg nI (if_neg z).symm
