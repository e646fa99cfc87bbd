theorem v_subM (a : Nat) : nI a - nI 1 = mI a := rfl
theorem in_N {i h : Nat} (hi : i < 2147483648) (hh : h < 2147483648) : (lN 0 ≤ lN i ∧ lN i ≤ lN h) ↔ i ≤ h := by
  rw [lN_le (by decide) hi, lN_le hi hh]; omega
theorem tl32 (x : Int32) : (x.toInt64).toInt = x.toInt := Int32.toInt_toInt64 x
theorem in_NM {i h : Nat} (hi : i < 2147483648) (hh : h < 2147483648) : (lN 0 ≤ lN i ∧ lN i ≤ (mI h).toInt64) ↔ i < h := by
  rw [Int64.le_iff_toInt_le, Int64.le_iff_toInt_le, tl32, mI_toInt hh, lN_toInt hi, lN_toInt (by decide)]; omega
theorem in_r {x : Int32} {h : Nat} (hh : h < 2147483648) : (lN 0 ≤ x.toInt64 ∧ x.toInt64 ≤ lN h) ↔ vI x (h + 1) := by
  rw [Int64.le_iff_toInt_le, Int64.le_iff_toInt_le, tl32, lN_toInt hh, lN_toInt (by decide)]; unfold vI; omega
theorem in_rM {x : Int32} {h : Nat} (hh : h < 2147483648) : (lN 0 ≤ x.toInt64 ∧ x.toInt64 ≤ (mI h).toInt64) ↔ vI x h := by
  rw [Int64.le_iff_toInt_le, Int64.le_iff_toInt_le, tl32 x, tl32 (mI h), mI_toInt hh, lN_toInt (by decide)]; unfold vI; omega
theorem cpy_s {F G : Nat → Int32} {sp dp k : Nat} : upd (va_cpy F G sp dp k) (dp + k) (F (sp + k)) = va_cpy F G sp dp (k + 1) := funext fun j => by
  unfold upd va_cpy
  by_cases e : j = dp + k
  · subst e; rw [if_pos rfl, if_pos (by omega)]; congr 1; omega
  · rw [if_neg e]
    by_cases h : dp ≤ j ∧ j < dp + k
    · rw [if_pos h, if_pos (by omega)]
    · rw [if_neg h, if_neg (by omega)]
theorem cpy_0 (F G : Nat → Int32) (sp dp : Nat) : G = va_cpy F G sp dp 0 := funext fun j => (if_neg (by omega)).symm
/-- how many bits of a number are set, of the first n -/
def cb (s : Nat) : Nat → Nat
  | 0 => 0
  | n + 1 => cb s n + s / 2 ^ n % 2
theorem cb_le (s : Nat) : ∀ n, cb s n ≤ n
  | 0 => Nat.le_refl 0
  | n + 1 => by have := cb_le s n; have : s / 2 ^ n % 2 < 2 := Nat.mod_lt _ (by decide); rw [cb]; omega
theorem cb_I {σ : Sg} (hW : Wf σ) (a : Nat) : ∀ {n : Nat}, n ≤ 20 → cb (bm (fun n => sI σ a n) 20) n = cntI σ a n
  | 0, _ => rfl
  | n + 1, h => by rw [cb, cntI, cb_I hW a (by omega), bmM_bit hW a (by omega)]
def ply (σ : Sg) (n a : Nat) : Nat := if dk σ n = 0 ∧ fa_first (fun p => decide (T σ n p = a + 1)) (sP σ) < sP σ then fa_first (fun p => decide (T σ n p = a + 1)) (sP σ) + 1 else 0
theorem ply_yes {σ : Sg} {n a p : Nat} (hd : dk σ n = 0) (hp : p < sP σ) (h : T σ n p = a + 1) (h0 : ∀ j, j < p → T σ n j ≠ a + 1) : ply σ n a = p + 1 := by
  unfold ply
  rw [fa_first_at hp (decide_eq_true h) (fun j hj => decide_eq_false (h0 j hj)), if_pos ⟨hd, hp⟩]
theorem ply_no {σ : Sg} {n a : Nat} (h : dk σ n = 0 → ∀ p, p < sP σ → T σ n p ≠ a + 1) : ply σ n a = 0 := by
  unfold ply
  rw [if_neg]
  rintro ⟨hd, z⟩
  exact h hd _ z (of_decide_eq_true (fa_first_yes (fun p => decide (T σ n p = a + 1)) (sP σ) z))
theorem ply_le (σ : Sg) (n a : Nat) : ply σ n a ≤ sP σ := by unfold ply; split <;> omega
abbrev usd (σ : Sg) (k : Nat) : Prop := dk σ (sL σ k 0) = 0 ∧ Bs σ (sL σ k 0) (sL σ k 1) = k + 1
theorem can_bit (u a : Nat) : u / 2 ^ a % 2 = 0 ↔ u.testBit a = false := tbd0 u a
theorem slF_nn {σ : Sg} {n p u k : Nat} (h : ¬ (sL σ k 0 = n ∧ sL σ k 1 = p ∧ can σ n u (sL σ k 2) ∧ (slF σ n p u k = 0 ∨ sL σ (slF σ n p u k - 1) 3 ≤ sL σ k 3))) : slF σ n p u k = slF σ n p u (k + 1) := by rw [slF, if_neg h]
theorem slF_yy {σ : Sg} {n p u k : Nat} (h1 : sL σ k 0 = n) (h2 : sL σ k 1 = p) (h3 : can σ n u (sL σ k 2)) (h4 : slF σ n p u k = 0 ∨ sL σ (slF σ n p u k - 1) 3 ≤ sL σ k 3) : k + 1 = slF σ n p u (k + 1) := by rw [slF, if_pos ⟨h1, h2, h3, h4⟩]
