/-! what a state of the archive is: a table of numbers by a tag and two places; and how a row of the class (RepC) and a row of the reference (RepM) hold it -/
abbrev Sg : Type := Nat → Nat → Nat → Nat
def sP (σ : Sg) : Nat := σ 0 0 0
def sA (σ : Sg) : Nat := σ 1 0 0
def sS (σ : Sg) : Nat := σ 2 0 0
def sO (σ : Sg) (i : Nat) : Nat := σ 3 i 0
def sF (σ : Sg) (a : Nat) : Nat := σ 4 a 0
def sI (σ : Sg) (a n : Nat) : Nat := σ 5 a n
def sR (σ : Sg) (p n : Nat) : Nat := σ 6 p n
def sC (σ : Sg) (p : Nat) : Nat := σ 7 p 0
def sU (σ : Sg) (p k : Nat) : Nat := σ 8 p k
def sL (σ : Sg) (k j : Nat) : Nat := σ 9 k j
/-- a set as a number, out of its bits -/
def bm (b : Nat → Nat) : Nat → Nat
  | 0 => 0
  | k + 1 => bm b k + b k * 2 ^ k
theorem bm_lt {b : Nat → Nat} (h : ∀ k, b k ≤ 1) : ∀ n, bm b n < 2 ^ n
  | 0 => by simp [bm]
  | n + 1 => by
    have h1 := bm_lt h n
    have h2 := h n
    rw [bm, Nat.pow_succ]
    have : b n * 2 ^ n ≤ 1 * 2 ^ n := Nat.mul_le_mul_right _ h2
    omega
theorem bm_bit {b : Nat → Nat} (h : ∀ k, b k ≤ 1) : ∀ {n k : Nat}, k < n → bm b n / 2 ^ k % 2 = b k
  | 0, k, hk => absurd hk (Nat.not_lt_zero k)
  | n + 1, k, hk => by
    have h1 := bm_lt h n
    rw [bm]
    rcases Nat.lt_or_ge k n with q | q
    · have e : b n * 2 ^ n = 2 ^ k * (2 * (b n * 2 ^ (n - k - 1))) := by
        have : 2 ^ n = 2 ^ k * (2 * 2 ^ (n - k - 1)) := by
          rw [← Nat.pow_succ', ← Nat.pow_add]; congr 1; omega
        rw [this]; ac_rfl
      rw [e, Nat.add_mul_div_left _ _ (Nat.two_pow_pos k), Nat.add_mul_mod_self_left]
      exact bm_bit h q
    · have hkn : k = n := by omega
      subst hkn
      rw [Nat.add_mul_div_right _ _ (Nat.two_pow_pos k), Nat.div_eq_of_lt h1, Nat.zero_add]
      exact Nat.mod_eq_of_lt (by have := h k; omega)
theorem bm_hi {b : Nat → Nat} (h : ∀ k, b k ≤ 1) {n k : Nat} (hk : n ≤ k) : bm b n / 2 ^ k % 2 = 0 := by
  rw [Nat.div_eq_of_lt (Nat.lt_of_lt_of_le (bm_lt h n) (Nat.pow_le_pow_right (by decide) hk))]
theorem bm_cong {b c : Nat → Nat} : ∀ {n : Nat}, (∀ k, k < n → b k = c k) → bm b n = bm c n
  | 0, _ => rfl
  | n + 1, h => by rw [bm, bm, bm_cong (fun k hk => h k (by omega)), h n (by omega)]
def Wf (σ : Sg) : Prop := sP σ ≤ 6 ∧ sA σ ≤ 10 ∧ sS σ ≤ 20 ∧ sO σ 0 ≤ 99 ∧ sO σ 1 ≤ 9 ∧ (∀ a, a < sA σ → sF σ a ≤ 9) ∧ (∀ a n, sI σ a n ≤ 1) ∧ (∀ a n, sA σ ≤ a → sI σ a n = 0) ∧ (∀ p n, p < sP σ → n < 20 → sR σ p n ≤ sA σ) ∧ (∀ p, p < sP σ → sC σ p ≤ 4) ∧ (∀ p k, p < sP σ → k < sC σ p → sU σ p k < sA σ) ∧
  (∀ k, k < sS σ → sL σ k 0 < 20 ∧ sL σ k 1 < sP σ ∧ sL σ k 2 < sA σ ∧ sL σ k 3 < 24)
def RepC (σ : Sg) (f : Nat → Int32) : Prop := f 0 = nI (sP σ) ∧ f 1 = nI (sA σ) ∧ f 2 = nI (sS σ) ∧ (∀ i, i < 2 → f (3 + i) = nI (sO σ i)) ∧ (∀ a, a < sA σ → f (5 + a) = nI (sF σ a)) ∧ (∀ n, n < 20 → f (15 + n) = nI (bm (fun a => sI σ a n) 10)) ∧ (∀ p, p < sP σ → f (35 + p) = nI (sC σ p)) ∧ (∀ p k, p < sP σ → k < sC σ p → f (41 + p * 4 + k) = nI (sU σ p k)) ∧ (∀ p n, p < sP σ → n < 20 → f (65 + p * 20 + n) = mI (sR σ p n)) ∧ (∀ k j, k < sS σ → j < 4 → f (185 + k * 4 + j) = nI (sL σ k j))
def RepM (σ : Sg) (g : Nat → Int32) : Prop := g 0 = nI (sP σ) ∧ g 1 = nI (sA σ) ∧ g 2 = nI (sS σ) ∧ (∀ i, i < 2 → g (3 + i) = nI (sO σ i)) ∧ (∀ a, a < sA σ → g (5 + a) = nI (sF σ a)) ∧ (∀ a, a < sA σ → g (15 + a) = nI (bm (fun n => sI σ a n) 20)) ∧ (∀ p, p < sP σ → g (145 + 5 * p) = nI (sC σ p)) ∧ (∀ p k, p < sP σ → k < sC σ p → g (145 + 5 * p + 1 + k) = nI (sU σ p k)) ∧ (∀ p n, p < sP σ → n < 20 → g (25 + 20 * p + n) = mI (sR σ p n)) ∧ (∀ k j, k < sS σ → j < 4 → g (175 + 4 * k + j) = nI (sL σ k j))
section
variable {σ : Sg} {f : Nat → Int32}
theorem Wf.P (h : Wf σ) : sP σ ≤ 6 := h.1
theorem Wf.A (h : Wf σ) : sA σ ≤ 10 := h.2.1
theorem Wf.S (h : Wf σ) : sS σ ≤ 20 := h.2.2.1
theorem Wf.O0 (h : Wf σ) : sO σ 0 ≤ 99 := h.2.2.2.1
theorem Wf.O1 (h : Wf σ) : sO σ 1 ≤ 9 := h.2.2.2.2.1
theorem Wf.F (h : Wf σ) {a : Nat} (ha : a < sA σ) : sF σ a ≤ 9 := h.2.2.2.2.2.1 a ha
theorem Wf.I (h : Wf σ) (a n : Nat) : sI σ a n ≤ 1 := h.2.2.2.2.2.2.1 a n
theorem Wf.I0 (h : Wf σ) {a : Nat} (n : Nat) (ha : sA σ ≤ a) : sI σ a n = 0 := h.2.2.2.2.2.2.2.1 a n ha
theorem Wf.R (h : Wf σ) {p n : Nat} (hp : p < sP σ) (hn : n < 20) : sR σ p n ≤ sA σ := h.2.2.2.2.2.2.2.2.1 p n hp hn
theorem Wf.C (h : Wf σ) {p : Nat} (hp : p < sP σ) : sC σ p ≤ 4 := h.2.2.2.2.2.2.2.2.2.1 p hp
theorem Wf.U (h : Wf σ) {p k : Nat} (hp : p < sP σ) (hk : k < sC σ p) : sU σ p k < sA σ := h.2.2.2.2.2.2.2.2.2.2.1 p k hp hk
theorem Wf.L (h : Wf σ) {k : Nat} (hk : k < sS σ) : sL σ k 0 < 20 ∧ sL σ k 1 < sP σ ∧ sL σ k 2 < sA σ ∧ sL σ k 3 < 24 := h.2.2.2.2.2.2.2.2.2.2.2 k hk
theorem RepC.P (h : RepC σ f) : f 0 = nI (sP σ) := h.1
theorem RepC.A (h : RepC σ f) : f 1 = nI (sA σ) := h.2.1
theorem RepC.S (h : RepC σ f) : f 2 = nI (sS σ) := h.2.2.1
theorem RepC.O (h : RepC σ f) {i : Nat} (hi : i < 2) : f (3 + i) = nI (sO σ i) := h.2.2.2.1 i hi
theorem RepC.F (h : RepC σ f) {a : Nat} (ha : a < sA σ) : f (5 + a) = nI (sF σ a) := h.2.2.2.2.1 a ha
theorem RepC.I (h : RepC σ f) {n : Nat} (hn : n < 20) : f (15 + n) = nI (bm (fun a => sI σ a n) 10) := h.2.2.2.2.2.1 n hn
theorem RepC.C (h : RepC σ f) {p : Nat} (hp : p < sP σ) : f (35 + p) = nI (sC σ p) := h.2.2.2.2.2.2.1 p hp
theorem RepC.U (h : RepC σ f) {p k : Nat} (hp : p < sP σ) (hk : k < sC σ p) : f (41 + p * 4 + k) = nI (sU σ p k) := h.2.2.2.2.2.2.2.1 p k hp hk
theorem RepC.R (h : RepC σ f) {p n : Nat} (hp : p < sP σ) (hn : n < 20) : f (65 + p * 20 + n) = mI (sR σ p n) := h.2.2.2.2.2.2.2.2.1 p n hp hn
theorem RepC.L (h : RepC σ f) {k j : Nat} (hk : k < sS σ) (hj : j < 4) : f (185 + k * 4 + j) = nI (sL σ k j) := h.2.2.2.2.2.2.2.2.2 k j hk hj
theorem RepM.P (h : RepM σ f) : f 0 = nI (sP σ) := h.1
theorem RepM.A (h : RepM σ f) : f 1 = nI (sA σ) := h.2.1
theorem RepM.S (h : RepM σ f) : f 2 = nI (sS σ) := h.2.2.1
theorem RepM.O (h : RepM σ f) {i : Nat} (hi : i < 2) : f (3 + i) = nI (sO σ i) := h.2.2.2.1 i hi
theorem RepM.F (h : RepM σ f) {a : Nat} (ha : a < sA σ) : f (5 + a) = nI (sF σ a) := h.2.2.2.2.1 a ha
theorem RepM.I (h : RepM σ f) {a : Nat} (ha : a < sA σ) : f (15 + a) = nI (bm (fun n => sI σ a n) 20) := h.2.2.2.2.2.1 a ha
theorem RepM.C (h : RepM σ f) {p : Nat} (hp : p < sP σ) : f (145 + 5 * p) = nI (sC σ p) := h.2.2.2.2.2.2.1 p hp
theorem RepM.U (h : RepM σ f) {p k : Nat} (hp : p < sP σ) (hk : k < sC σ p) : f (145 + 5 * p + 1 + k) = nI (sU σ p k) := h.2.2.2.2.2.2.2.1 p k hp hk
theorem RepM.R (h : RepM σ f) {p n : Nat} (hp : p < sP σ) (hn : n < 20) : f (25 + 20 * p + n) = mI (sR σ p n) := h.2.2.2.2.2.2.2.2.1 p n hp hn
theorem RepM.L (h : RepM σ f) {k j : Nat} (hk : k < sS σ) (hj : j < 4) : f (175 + 4 * k + j) = nI (sL σ k j) := h.2.2.2.2.2.2.2.2.2 k j hk hj
theorem bmC_lt (h : Wf σ) (n : Nat) : bm (fun a => sI σ a n) 10 < 1024 := bm_lt (fun a => h.I a n) 10
theorem bmM_lt (h : Wf σ) (a : Nat) : bm (fun n => sI σ a n) 20 < 1048576 := bm_lt (fun n => h.I a n) 20
theorem bmC_bit (h : Wf σ) {a : Nat} (n : Nat) (ha : a < 10) : bm (fun a => sI σ a n) 10 / 2 ^ a % 2 = sI σ a n := bm_bit (fun a => h.I a n) ha
theorem bmM_bit (h : Wf σ) {n : Nat} (a : Nat) (hn : n < 20) : bm (fun n => sI σ a n) 20 / 2 ^ n % 2 = sI σ a n := bm_bit (fun n => h.I a n) hn
end
/-- a raw number that is an index -/
abbrev vI (x : Int32) (n : Nat) : Prop := 0 ≤ x.toInt ∧ x.toInt < (n : Int)
theorem vI_of {x : Int32} {n : Nat} (h : vI x n) (hn : n < 2147483648) : ∃ k : Nat, k < n ∧ x = nI k := vp_in_of (vp_in_iff.mpr h) hn
theorem vI_N {k n : Nat} (hk : k < 2147483648) : vI (nI k) n ↔ k < n := by unfold vI; rw [nI_toInt hk]; omega
theorem v_max {a b : Nat} (ha : a < 2147483648) (hb : b < 2147483648) : (if nI a < nI b then nI b else nI a) = nI (if a < b then b else a) := by
  by_cases h : a < b
  · rw [if_pos ((c_ltNN ha hb).mpr h), if_pos h]
  · rw [if_neg (fun z => h ((c_ltNN ha hb).mp z)), if_neg h]
theorem v_min {a b : Nat} (ha : a < 2147483648) (hb : b < 2147483648) : (if nI b < nI a then nI b else nI a) = nI (if b < a then b else a) := by
  by_cases h : b < a
  · rw [if_pos ((c_ltNN hb ha).mpr h), if_pos h]
  · rw [if_neg (fun z => h ((c_ltNN hb ha).mp z)), if_neg h]
/-- the nights of an actor's illness -/
def cntI (σ : Sg) (a : Nat) : Nat → Nat
  | 0 => 0
  | n + 1 => cntI σ a n + sI σ a n
theorem cntI_le {σ : Sg} (h : Wf σ) (a : Nat) : ∀ n, cntI σ a n ≤ n
  | 0 => Nat.le_refl 0
  | n + 1 => by have h1 := cntI_le h a n; have h2 := h.I a n; rw [cntI]; omega
/-- the principals of a night, as a set -/
def prM (σ : Sg) (n : Nat) : Nat → Nat
  | 0 => 0
  | p + 1 => if sR σ p n = 0 then prM σ n p else prM σ n p ||| 2 ^ (sR σ p n - 1)
/-- the slips of a night, as a set -/
def slM (σ : Sg) (n : Nat) : Nat → Nat
  | 0 => 0
  | k + 1 => if sL σ k 0 = n then slM σ n k ||| 2 ^ k else slM σ n k
/-- the slips for a part on a night -/
def slC (σ : Sg) (n p : Nat) : Nat → Nat
  | 0 => 0
  | k + 1 => if sL σ k 0 = n ∧ sL σ k 1 = p then slC σ n p k + 1 else slC σ n p k
theorem slC_le (σ : Sg) (n p : Nat) : ∀ k, slC σ n p k ≤ k
  | 0 => Nat.le_refl 0
  | k + 1 => by have h := slC_le σ n p k; rw [slC]; split <;> omega
/-- an understudy's actor and one more, 0 for none -/
def sUm (σ : Sg) (p k : Nat) : Nat := if k < sC σ p then sU σ p k + 1 else 0
/-- an actor's rank and one more, 0 for none -/
def rk (σ : Sg) (p a : Nat) : Nat := if fa_first (fun k => decide (sU σ p k = a)) (sC σ p) < sC σ p then fa_first (fun k => decide (sU σ p k = a)) (sC σ p) + 1 else 0
def sFm (σ : Sg) (x : Nat) : Nat := if x = 0 then 0 else sF σ (x - 1)
def sHm (σ : Sg) (z : Nat) : Nat := if z = 0 then 0 else sL σ (z - 1) 3 + 1
