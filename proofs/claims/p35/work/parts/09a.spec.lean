/-! who is taken for a part on a night: in plain numbers, 0 for nobody, a + 1 for the actor a -/
theorem tbd (x a : Nat) : x / 2 ^ a % 2 = 1 ↔ x.testBit a = true := by
  rw [Nat.testBit_eq_decide_div_mod_eq, decide_eq_true_iff]
theorem tbd0 (x a : Nat) : x / 2 ^ a % 2 = 0 ↔ x.testBit a = false := by
  rw [Nat.testBit_eq_decide_div_mod_eq, decide_eq_false_iff_not]
  have : x / 2 ^ a % 2 < 2 := Nat.mod_lt _ (by decide)
  omega
abbrev can (σ : Sg) (n u a : Nat) : Prop := sI σ a n = 0 ∧ u.testBit a = false
def slF (σ : Sg) (n p u : Nat) : Nat → Nat
  | 0 => 0
  | k + 1 => if sL σ k 0 = n ∧ sL σ k 1 = p ∧ can σ n u (sL σ k 2) ∧ (slF σ n p u k = 0 ∨ sL σ (slF σ n p u k - 1) 3 ≤ sL σ k 3) then k + 1 else slF σ n p u k
def sl (σ : Sg) (n p u : Nat) : Nat := slF σ n p u (sS σ)
abbrev oth (σ : Sg) (n p a : Nat) : Prop := fa_first (fun q => decide (q ≠ p ∧ sR σ q n = a + 1)) (sP σ) < sP σ
def unP (σ : Sg) (n p u : Nat) (k : Nat) : Bool := decide (can σ n u (sU σ p k) ∧ ¬ oth σ n p (sU σ p k))
def un (σ : Sg) (n p u : Nat) : Nat := if fa_first (unP σ n p u) (sC σ p) < sC σ p then sU σ p (fa_first (unP σ n p u) (sC σ p)) + 1 else 0
abbrev own (σ : Sg) (n p u : Nat) : Prop := sR σ p n ≠ 0 ∧ can σ n u (sR σ p n - 1)
def tk (σ : Sg) (n p u : Nat) : Nat := if sl σ n p u ≠ 0 then sL σ (sl σ n p u - 1) 2 + 1 else if own σ n p u then sR σ p n else un σ n p u
def why (σ : Sg) (n p u : Nat) : Nat := if sl σ n p u ≠ 0 then 1 else if own σ n p u then 2 else if un σ n p u ≠ 0 then 3 else 0
def us (σ : Sg) (n : Nat) : Nat → Nat
  | 0 => 0
  | p + 1 => if tk σ n p (us σ n p) = 0 then us σ n p else us σ n p ||| 2 ^ (tk σ n p (us σ n p) - 1)
def T (σ : Sg) (n p : Nat) : Nat := tk σ n p (us σ n p)
def Bs (σ : Sg) (n p : Nat) : Nat := sl σ n p (us σ n p)
def Wy (σ : Sg) (n p : Nat) : Nat := why σ n p (us σ n p)
def dkN (σ : Sg) (n : Nat) : Nat → Nat
  | 0 => if sP σ = 0 then 1 else 0
  | p + 1 => if dkN σ n p = 1 ∨ T σ n p = 0 then 1 else 0
def dk (σ : Sg) (n : Nat) : Nat := dkN σ n (sP σ)
def fam (σ : Sg) (n : Nat) : Nat → Nat
  | 0 => 0
  | p + 1 => fam σ n p + sFm σ (T σ n p)
def tak (σ : Sg) (n : Nat) : Nat := if dk σ n = 1 then 0 else sO σ 0 + sO σ 1 * fam σ n (sP σ)
def plr (σ : Sg) (n : Nat) : Nat := if dk σ n = 1 then 0 else us σ n (sP σ)
section SPEC
variable {σ : Sg}
theorem slF_le (σ : Sg) (n p u : Nat) : ∀ k, slF σ n p u k ≤ k
  | 0 => Nat.le_refl 0
  | k + 1 => by have := slF_le σ n p u k; rw [slF]; split <;> omega
theorem sl_le (σ : Sg) (n p u : Nat) : sl σ n p u ≤ sS σ := slF_le σ n p u _
/-- what a slip that is chosen says -/
theorem slF_at {n p u : Nat} : ∀ {k : Nat}, slF σ n p u k ≠ 0 → sL σ (slF σ n p u k - 1) 0 = n ∧ sL σ (slF σ n p u k - 1) 1 = p ∧ can σ n u (sL σ (slF σ n p u k - 1) 2)
  | 0, h => absurd rfl h
  | k + 1, h => by
    rw [slF] at h ⊢
    by_cases c : sL σ k 0 = n ∧ sL σ k 1 = p ∧ can σ n u (sL σ k 2) ∧ (slF σ n p u k = 0 ∨ sL σ (slF σ n p u k - 1) 3 ≤ sL σ k 3)
    · rw [if_pos c, Nat.add_sub_cancel]; exact ⟨c.1, c.2.1, c.2.2.1⟩
    · rw [if_neg c] at h ⊢; exact slF_at h
theorem sl_at {n p u : Nat} (h : sl σ n p u ≠ 0) : sL σ (sl σ n p u - 1) 0 = n ∧ sL σ (sl σ n p u - 1) 1 = p ∧ can σ n u (sL σ (sl σ n p u - 1) 2) := slF_at h
theorem slF_stop {n p u k : Nat} : ∀ {m : Nat}, k ≤ m → (∀ j, k ≤ j → j < m → sL σ j 0 ≠ n) → slF σ n p u m = slF σ n p u k
  | 0, h, _ => by rw [show k = 0 from by omega]
  | m + 1, h, hn => by
    rcases Nat.lt_or_ge m k with q | q
    · rw [show k = m + 1 from by omega]
    · rw [slF, if_neg (fun z => hn m q (by omega) z.1)]
      exact slF_stop q (fun j h1 h2 => hn j h1 (by omega))
theorem slM_tb (σ : Sg) (n j : Nat) : ∀ k, (slM σ n k).testBit j = decide (j < k ∧ sL σ j 0 = n)
  | 0 => by simp [slM]
  | k + 1 => by
    rw [slM]
    by_cases h : sL σ k 0 = n
    · rw [if_pos h, Nat.testBit_or, slM_tb σ n j k, Nat.testBit_two_pow]
      by_cases e : k = j
      · subst e; simp [h]
      · simp only [e, decide_false, Bool.or_false]
        congr 1; ext; constructor <;> intro z <;> exact ⟨by omega, z.2⟩
    · rw [if_neg h, slM_tb σ n j k]
      congr 1; ext; constructor
      · intro z; exact ⟨by omega, z.2⟩
      · intro z
        refine ⟨?_, z.2⟩
        rcases Nat.lt_or_ge j k with q | q
        · exact q
        · exfalso; apply h; rw [show k = j from by omega]; exact z.2
theorem slM_lt (σ : Sg) (n k : Nat) : slM σ n k < 2 ^ k := Nat.lt_pow_two_of_testBit _ fun i hi => by rw [slM_tb]; simp; omega
theorem slM_lt32 (h : Wf σ) (n : Nat) : slM σ n (sS σ) < 1048576 := Nat.lt_of_lt_of_le (slM_lt σ n _) (Nat.pow_le_pow_right (by decide) h.S : 2 ^ sS σ ≤ 2 ^ 20)
theorem slM_out {n k m : Nat} (h : slM σ n m / 2 ^ k = 0) : ∀ j, k ≤ j → j < m → sL σ j 0 ≠ n := by
  intro j h1 h2 e
  have h3 : slM σ n m < 2 ^ k := by
    rcases Nat.lt_or_ge (slM σ n m) (2 ^ k) with q | q
    · exact q
    · have := Nat.div_pos q (Nat.two_pow_pos k); omega
  have h4 : (slM σ n m).testBit j = true := by rw [slM_tb]; simp [h2, e]
  rw [Nat.testBit_lt_two_pow (Nat.lt_of_lt_of_le h3 (Nat.pow_le_pow_right (by decide) h1))] at h4
  cases h4
theorem slM_in {n k m : Nat} (h : slM σ n m / 2 ^ k ≠ 0) : k < m := by
  rcases Nat.lt_or_ge k m with q | q
  · exact q
  · exfalso; apply h
    exact Nat.div_eq_of_lt (Nat.lt_of_lt_of_le (slM_lt σ n m) (Nat.pow_le_pow_right (by decide) q))
theorem prM_tb (σ : Sg) (n a : Nat) : ∀ p, (prM σ n p).testBit a = true ↔ ∃ q, q < p ∧ sR σ q n = a + 1
  | 0 => by simp [prM]
  | p + 1 => by
    rw [prM]
    by_cases h : sR σ p n = 0
    · rw [if_pos h, prM_tb σ n a p]
      constructor
      · rintro ⟨q, h1, h2⟩; exact ⟨q, by omega, h2⟩
      · rintro ⟨q, h1, h2⟩
        refine ⟨q, ?_, h2⟩
        rcases Nat.lt_or_ge q p with z | z
        · exact z
        · rw [show q = p from by omega, h] at h2; cases h2
    · rw [if_neg h, Nat.testBit_or, Nat.testBit_two_pow, Bool.or_eq_true, prM_tb σ n a p, decide_eq_true_iff]
      constructor
      · rintro (⟨q, h1, h2⟩ | h1)
        · exact ⟨q, by omega, h2⟩
        · exact ⟨p, by omega, by omega⟩
      · rintro ⟨q, h1, h2⟩
        rcases Nat.lt_or_ge q p with z | z
        · exact Or.inl ⟨q, z, h2⟩
        · right; rw [show q = p from by omega] at h2; omega
theorem prM_lt (h : Wf σ) {n : Nat} (hn : n < 20) : ∀ {p : Nat}, p ≤ sP σ → prM σ n p < 1024
  | 0, _ => by simp [prM]
  | p + 1, hp => by
    have h1 := prM_lt h hn (show p ≤ sP σ by omega)
    have h2 := h.R (show p < sP σ by omega) hn
    have h3 := h.A
    rw [prM]
    split
    · exact h1
    · exact Nat.or_lt_two_pow (n := 10) h1 (Nat.pow_lt_pow_right (by decide) (by omega))
theorem oth_iff {n p a : Nat} : oth σ n p a ↔ ∃ q, q < sP σ ∧ q ≠ p ∧ sR σ q n = a + 1 := by
  constructor
  · intro h
    have := of_decide_eq_true (fa_first_yes (fun q => decide (q ≠ p ∧ sR σ q n = a + 1)) (sP σ) h)
    exact ⟨_, h, this⟩
  · rintro ⟨q, h1, h2⟩
    rcases Nat.lt_or_ge (fa_first (fun q => decide (q ≠ p ∧ sR σ q n = a + 1)) (sP σ)) (sP σ) with z | z
    · exact z
    · have h3 := fa_first_le (fun q => decide (q ≠ p ∧ sR σ q n = a + 1)) (sP σ)
      have h4 := fa_first_no (fun q => decide (q ≠ p ∧ sR σ q n = a + 1)) (sP σ) q (by omega)
      exact absurd h2 (of_decide_eq_false h4)
theorem un_no {n p u : Nat} (h : ∀ k, k < sC σ p → unP σ n p u k = false) : un σ n p u = 0 := by
  unfold un
  rw [if_neg]
  intro z
  have := fa_first_yes (unP σ n p u) (sC σ p) z
  rw [h _ z] at this; cases this
theorem un_yes {n p u k : Nat} (hk : k < sC σ p) (h : unP σ n p u k = true) (h0 : ∀ j, j < k → unP σ n p u j = false) : un σ n p u = sU σ p k + 1 := by
  unfold un
  rw [fa_first_at hk h h0, if_pos hk]
theorem un_le (h : Wf σ) {n p u : Nat} (hp : p < sP σ) : un σ n p u ≤ sA σ := by
  unfold un
  split
  · rename_i z; exact h.U hp z
  · exact Nat.zero_le _
theorem un_can {n p u : Nat} (h : un σ n p u ≠ 0) : can σ n u (un σ n p u - 1) := by
  unfold un at h ⊢
  by_cases z : fa_first (unP σ n p u) (sC σ p) < sC σ p
  · rw [if_pos z, Nat.add_sub_cancel]
    exact (of_decide_eq_true (fa_first_yes (unP σ n p u) (sC σ p) z)).1
  · rw [if_neg z] at h; exact absurd rfl h
theorem tk_le (h : Wf σ) {n p u : Nat} (hp : p < sP σ) (hn : n < 20) : tk σ n p u ≤ sA σ := by
  unfold tk
  split
  · rename_i z
    have := sl_le σ n p u
    exact (h.L (by omega : sl σ n p u - 1 < sS σ)).2.2.1
  · split
    · exact h.R hp hn
    · exact un_le h hp
theorem tk_can {n p u : Nat} (h : tk σ n p u ≠ 0) : can σ n u (tk σ n p u - 1) := by
  unfold tk at h ⊢
  by_cases z : sl σ n p u ≠ 0
  · rw [if_pos z, Nat.add_sub_cancel]; exact (sl_at z).2.2
  · rw [if_neg z] at h ⊢
    by_cases y : own σ n p u
    · rw [if_pos y]; exact y.2
    · rw [if_neg y] at h ⊢; exact un_can h
theorem why_0 {n p u : Nat} : why σ n p u = 0 ↔ tk σ n p u = 0 := by
  unfold why tk
  by_cases z : sl σ n p u ≠ 0
  · simp [z]
  · rw [if_neg z, if_neg z]
    by_cases y : own σ n p u
    · rw [if_pos y, if_pos y]; exact ⟨fun e => by omega, fun e => absurd e y.1⟩
    · rw [if_neg y, if_neg y]
      split <;> omega
theorem why_le (σ : Sg) (n p u : Nat) : why σ n p u ≤ 3 := by
  unfold why
  split
  · omega
  · split
    · omega
    · split <;> omega
theorem us_lt (h : Wf σ) {n : Nat} (hn : n < 20) : ∀ {p : Nat}, p ≤ sP σ → us σ n p < 1024
  | 0, _ => by simp [us]
  | p + 1, hp => by
    have h1 := us_lt h hn (show p ≤ sP σ by omega)
    have h2 := tk_le h (show p < sP σ by omega) hn (u := us σ n p)
    have h3 := h.A
    rw [us]
    split
    · exact h1
    · exact Nat.or_lt_two_pow (n := 10) h1 (Nat.pow_lt_pow_right (by decide) (by omega))
theorem T_le (h : Wf σ) {n p : Nat} (hp : p < sP σ) (hn : n < 20) : T σ n p ≤ sA σ := tk_le h hp hn
theorem Bs_le (σ : Sg) (n p : Nat) : Bs σ n p ≤ sS σ := sl_le σ n p _
theorem us_s (σ : Sg) (n p : Nat) : us σ n (p + 1) = if T σ n p = 0 then us σ n p else us σ n p ||| 2 ^ (T σ n p - 1) := rfl
theorem dkN_le (σ : Sg) (n : Nat) : ∀ p, dkN σ n p ≤ 1
  | 0 => by rw [dkN]; split <;> omega
  | p + 1 => by rw [dkN]; split <;> omega
theorem dk_le (σ : Sg) (n : Nat) : dk σ n ≤ 1 := dkN_le σ n _
theorem fam_le (h : Wf σ) {n : Nat} (hn : n < 20) : ∀ {p : Nat}, p ≤ sP σ → fam σ n p ≤ 9 * p
  | 0, _ => Nat.le_refl 0
  | p + 1, hp => by
    have h1 := fam_le h hn (show p ≤ sP σ by omega)
    have h2 := T_le h (show p < sP σ by omega) hn
    have h3 : sFm σ (T σ n p) ≤ 9 := by
      unfold sFm
      split
      · omega
      · exact h.F (by omega)
    rw [fam]; omega
theorem tak_le (h : Wf σ) {n : Nat} (hn : n < 20) : tak σ n ≤ 585 := by
  unfold tak
  split
  · omega
  · have h1 := fam_le h hn (Nat.le_refl (sP σ))
    have h2 := h.P
    have h3 := h.O0
    have h4 := h.O1
    have h5 : sO σ 1 * fam σ n (sP σ) ≤ 9 * 54 := Nat.mul_le_mul h4 (by omega)
    omega
/-- who was taken is in the set -/
theorem us_tb (σ : Sg) (n a : Nat) : ∀ p, (us σ n p).testBit a = true ↔ ∃ q, q < p ∧ T σ n q = a + 1
  | 0 => by simp [us]
  | p + 1 => by
    rw [us_s]
    by_cases h : T σ n p = 0
    · rw [if_pos h, us_tb σ n a p]
      constructor
      · rintro ⟨q, h1, h2⟩; exact ⟨q, by omega, h2⟩
      · rintro ⟨q, h1, h2⟩
        refine ⟨q, ?_, h2⟩
        rcases Nat.lt_or_ge q p with z | z
        · exact z
        · rw [show q = p from by omega, h] at h2; cases h2
    · rw [if_neg h, Nat.testBit_or, Nat.testBit_two_pow, Bool.or_eq_true, us_tb σ n a p, decide_eq_true_iff]
      constructor
      · rintro (⟨q, h1, h2⟩ | h1)
        · exact ⟨q, by omega, h2⟩
        · exact ⟨p, by omega, by omega⟩
      · rintro ⟨q, h1, h2⟩
        rcases Nat.lt_or_ge q p with z | z
        · exact Or.inl ⟨q, z, h2⟩
        · right; rw [show q = p from by omega] at h2; omega
/-- nobody is taken twice -/
theorem T_inj {n p q : Nat} (h : p < q) (h0 : T σ n q ≠ 0) : T σ n p ≠ T σ n q := by
  intro e
  have h1 := (tk_can (σ := σ) (n := n) (p := q) (u := us σ n q) h0).2
  have h2 : (us σ n q).testBit (T σ n q - 1) = true := (us_tb σ n _ q).mpr ⟨p, h, by rw [e]; omega⟩
  rw [show tk σ n q (us σ n q) = T σ n q from rfl, h2] at h1
  cases h1
theorem dk_iff {n : Nat} : dk σ n = 0 ↔ sP σ ≠ 0 ∧ ∀ p, p < sP σ → T σ n p ≠ 0 := by
  have key : ∀ m, dkN σ n m = 0 ↔ sP σ ≠ 0 ∧ ∀ p, p < m → T σ n p ≠ 0 := by
    intro m
    induction m with
    | zero =>
      rw [dkN]
      split
      · rename_i z; exact ⟨fun e => by omega, fun e => absurd z e.1⟩
      · rename_i z; exact ⟨fun _ => ⟨z, fun p hp => absurd hp (Nat.not_lt_zero p)⟩, fun _ => rfl⟩
    | succ m ih =>
      have h1 := dkN_le σ n m
      rw [dkN]
      constructor
      · intro e
        split at e
        · omega
        · rename_i z
          have z1 : ¬ dkN σ n m = 1 := fun y => z (Or.inl y)
          have z2 : ¬ T σ n m = 0 := fun y => z (Or.inr y)
          obtain ⟨h2, h3⟩ := ih.mp (by omega)
          exact ⟨h2, lt_step h3 z2⟩
      · rintro ⟨h2, h3⟩
        have h4 := ih.mpr ⟨h2, fun p hp => h3 p (by omega)⟩
        rw [if_neg]
        rintro (y | y)
        · omega
        · exact h3 m (by omega) y
  exact key _
end SPEC
/-- who is free: there, not ill, not taken yet -/
def Fre (σ : Sg) (n u fr : Nat) : Prop := ∀ a, fr.testBit a = true ↔ a < sA σ ∧ can σ n u a
theorem Fre_lt {σ : Sg} {n u fr : Nat} (hW : Wf σ) (h : Fre σ n u fr) : fr < 1024 := by
  refine Nat.lt_pow_two_of_testBit (n := 10) _ fun i hi => ?_
  cases e : fr.testBit i with
  | false => rfl
  | true => have := ((h i).mp e).1; have := hW.A; omega
theorem Fre_0 {σ : Sg} {n : Nat} (hW : Wf σ) : Fre σ n 0 ((2 ^ sA σ - 1) ^^^ ((2 ^ sA σ - 1) &&& bm (fun a => sI σ a n) 10)) := by
  intro a
  have hA := hW.A
  rw [Nat.testBit_xor, Nat.testBit_and, Nat.testBit_two_pow_sub_one, bm_tb (fun a => hW.I a n)]
  have hi := hW.I a n
  by_cases h : a < sA σ
  · simp only [h, decide_true, true_and, Bool.true_and, Nat.zero_testBit, and_true]
    by_cases e : sI σ a n = 1
    · have : a < 10 := by omega
      simp [e, this, can]
    · have : sI σ a n = 0 := by omega
      simp [this, can]
  · simp [h]
theorem Fre_take {σ : Sg} {n u fr x : Nat} (h : Fre σ n u fr) : Fre σ n (u ||| 2 ^ x) (fr ^^^ (fr &&& 2 ^ x)) := by
  intro a
  have h1 := h a
  rw [Nat.testBit_xor, Nat.testBit_and, Nat.testBit_two_pow]
  unfold can at h1 ⊢
  rw [Nat.testBit_or, Nat.testBit_two_pow]
  by_cases e : x = a
  · subst e; simp
  · simp only [e, decide_false, Bool.and_false, Bool.xor_false, Bool.or_false]
    exact h1
