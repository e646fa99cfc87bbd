/-! what the questions answer, in plain numbers, told as the reference goes through them -/
/-- a bill as a number and one more, 0 for a dark night -/
def blm (σ : Sg) (n : Nat) : Nat := if dk σ n = 0 then biN σ n (sP σ) + 1 else 0
def blL (σ : Sg) (n : Nat) : Int64 := if dk σ n = 0 then lN (biN σ n (sP σ)) else -1
abbrev newB (σ : Sg) (n : Nat) : Prop := blm σ n ≠ 0 ∧ ∀ j, j < n → blm σ j ≠ blm σ n
def unlN (σ : Sg) : Nat → Nat
  | 0 => 0
  | n + 1 => unlN σ n + if newB σ n then 1 else 0
def usN (σ : Sg) : Nat → Nat
  | 0 => 0
  | k + 1 => usN σ k + if usd σ k then 1 else 0
def otN (σ : Sg) (n : Nat) : Nat → Nat
  | 0 => 0
  | p + 1 => otN σ n p + if T σ n p = sR σ p n then 0 else 1
def otk (σ : Sg) (n : Nat) : Nat := if dk σ n = 0 then otN σ n (sP σ) else 0
def pcN (σ : Sg) (a : Nat) : Nat → Nat
  | 0 => 0
  | n + 1 => pcN σ a n + if ply σ n a = 0 then 0 else 1
def pfN (σ : Sg) (a : Nat) : Nat → Nat
  | 0 => 0
  | n + 1 => if ply σ n a ≠ 0 ∧ pfN σ a n = 0 then n + 1 else pfN σ a n
def plN (σ : Sg) (a : Nat) : Nat → Nat
  | 0 => 0
  | n + 1 => if ply σ n a = 0 then plN σ a n else n + 1
def paN (σ : Sg) (a : Nat) : Nat → Nat
  | 0 => 0
  | n + 1 => if ply σ n a = 0 then paN σ a n else paN σ a n ||| 2 ^ (ply σ n a - 1)
abbrev isPl (σ : Sg) (p a n : Nat) : Prop := dk σ n = 0 ∧ T σ n p = a + 1
def fdC (σ : Sg) (p a : Nat) : Nat → Nat
  | 0 => 0
  | n + 1 => fdC σ p a n + if isPl σ p a n then 1 else 0
def fdP (σ : Sg) (p a k : Nat) (n : Nat) : Bool := decide (isPl σ p a n ∧ fdC σ p a n = k)
def fnd (σ : Sg) (p a k : Nat) : Nat := if fa_first (fdP σ p a k) 20 < 20 then fa_first (fdP σ p a k) 20 + 1 else 0
def tgN (σ : Sg) (a b : Nat) : Nat → Nat
  | 0 => 0
  | n + 1 => tgN σ a b n + if ply σ n a ≠ 0 ∧ ply σ n b ≠ 0 then 1 else 0
def lgR (σ : Sg) (p a : Nat) : Nat → Nat
  | 0 => 0
  | n + 1 => if isPl σ p a n then lgR σ p a n + 1 else 0
def lgB (σ : Sg) (p a : Nat) : Nat → Nat
  | 0 => 0
  | n + 1 => if lgB σ p a n < lgR σ p a (n + 1) then lgR σ p a (n + 1) else lgB σ p a n
def rwN (σ : Sg) (n : Nat) : Nat → Nat
  | 0 => 0
  | p + 1 => 11 * rwN σ n p + T σ n p
def chg (σ τ : Sg) (n : Nat) : Nat := bm (fun p => if T σ n p = T τ n p then 0 else 1) (sP σ)
def oAll (σ : Sg) (a k : Nat) : Sg := fun t i j => if t = 5 ∧ i = a ∧ j < k then 1 else σ t i j
def bu (σ : Sg) (p : Nat) : Nat → Nat × Nat × Nat
  | 0 => (0, 0, 0)
  | a + 1 => if (p < sP σ ∧ a < sA σ ∧ sC σ p < 4 ∧ rk σ p a = 0) ∧ ((bu σ p a).1 = 0 ∨ dkS (oStudy σ p a) 20 < (bu σ p a).2.1 ∨ (dkS (oStudy σ p a) 20 = (bu σ p a).2.1 ∧ (bu σ p a).2.2 < tkS (oStudy σ p a) 20)) then (a + 1, dkS (oStudy σ p a) 20, tkS (oStudy σ p a) 20) else bu σ p a
def nd (σ : Sg) : Nat → Nat × Nat
  | 0 => (0, 0)
  | a + 1 => if (nd σ a).1 = 0 ∨ (nd σ a).2 < dkS (oAll σ a 20) 20 then (a + 1, dkS (oAll σ a 20) 20) else nd σ a
section
variable {σ : Sg}
theorem unlN_le (σ : Sg) : ∀ n, unlN σ n ≤ n
  | 0 => Nat.le_refl 0
  | n + 1 => by have := unlN_le σ n; rw [unlN]; split <;> omega
theorem usN_le (σ : Sg) : ∀ n, usN σ n ≤ n
  | 0 => Nat.le_refl 0
  | n + 1 => by have := usN_le σ n; rw [usN]; split <;> omega
theorem otN_le (σ : Sg) (n : Nat) : ∀ p, otN σ n p ≤ p
  | 0 => Nat.le_refl 0
  | p + 1 => by have := otN_le σ n p; rw [otN]; split <;> omega
theorem pcN_le (σ : Sg) (a : Nat) : ∀ n, pcN σ a n ≤ n
  | 0 => Nat.le_refl 0
  | n + 1 => by have := pcN_le σ a n; rw [pcN]; split <;> omega
theorem pfN_le (σ : Sg) (a : Nat) : ∀ n, pfN σ a n ≤ n
  | 0 => Nat.le_refl 0
  | n + 1 => by have := pfN_le σ a n; rw [pfN]; split <;> omega
theorem plN_le (σ : Sg) (a : Nat) : ∀ n, plN σ a n ≤ n
  | 0 => Nat.le_refl 0
  | n + 1 => by have := plN_le σ a n; rw [plN]; split <;> omega
theorem paN_lt (hW : Wf σ) (a : Nat) : ∀ n, paN σ a n < 64
  | 0 => by simp [paN]
  | n + 1 => by
    have h1 := paN_lt hW a n
    have h2 := ply_le σ n a
    have h3 := hW.P
    rw [paN]
    split
    · exact h1
    · exact Nat.or_lt_two_pow (n := 6) h1 (Nat.pow_lt_pow_right (by decide) (by omega))
theorem fdC_le (σ : Sg) (p a : Nat) : ∀ n, fdC σ p a n ≤ n
  | 0 => Nat.le_refl 0
  | n + 1 => by have := fdC_le σ p a n; rw [fdC]; split <;> omega
theorem tgN_le (σ : Sg) (a b : Nat) : ∀ n, tgN σ a b n ≤ n
  | 0 => Nat.le_refl 0
  | n + 1 => by have := tgN_le σ a b n; rw [tgN]; split <;> omega
theorem lgR_le (σ : Sg) (p a : Nat) : ∀ n, lgR σ p a n ≤ n
  | 0 => Nat.le_refl 0
  | n + 1 => by have := lgR_le σ p a n; rw [lgR]; split <;> omega
theorem lgB_le (σ : Sg) (p a : Nat) : ∀ n, lgB σ p a n ≤ n
  | 0 => Nat.le_refl 0
  | n + 1 => by have := lgB_le σ p a n; have := lgR_le σ p a (n + 1); rw [lgB]; split <;> omega
theorem fnd_yes {p a k n : Nat} (hn : n < 20) (h : isPl σ p a n) (hc : fdC σ p a n = k) (h0 : ∀ j, j < n → fdP σ p a k j = false) : fnd σ p a k = n + 1 := by
  unfold fnd
  rw [fa_first_at hn (decide_eq_true ⟨h, hc⟩) h0, if_pos hn]
theorem fnd_no {p a k : Nat} (h : ∀ j, j < 20 → fdP σ p a k j = false) : fnd σ p a k = 0 := by
  unfold fnd
  rw [if_neg]
  intro z
  have := fa_first_yes (fdP σ p a k) 20 z
  rw [h _ z] at this; cases this
theorem blL_eq {m n : Nat} (hW : Wf σ) (hm : m < 20) (hn : n < 20) : blL σ m = blL σ n ↔ blm σ m = blm σ n := by
  have h1 := biN_lt hW hm (Nat.le_refl (sP σ))
  have h2 := biN_lt hW hn (Nat.le_refl (sP σ))
  have h3 : 10 ^ sP σ ≤ 10 ^ 6 := Nat.pow_le_pow_right (by decide) hW.P
  unfold blL blm
  have neg : ∀ x : Nat, x < 2147483648 → lN x ≠ -1 := fun x hx e => by
    have := congrArg Int64.toInt e
    rw [lN_toInt hx] at this
    have h9 : (-1 : Int64).toInt = -1 := by decide
    omega
  by_cases a : dk σ m = 0 <;> by_cases b : dk σ n = 0
  · rw [if_pos a, if_pos b, if_pos a, if_pos b, lN_eq (by omega) (by omega)]; omega
  · rw [if_pos a, if_neg b, if_pos a, if_neg b]; exact ⟨fun e => absurd e (neg _ (by omega)), fun e => by omega⟩
  · rw [if_neg a, if_pos b, if_neg a, if_pos b]; exact ⟨fun e => absurd e.symm (neg _ (by omega)), fun e => by omega⟩
  · rw [if_neg a, if_neg b, if_neg a, if_neg b]; exact ⟨fun _ => rfl, fun _ => rfl⟩
theorem blL_pos {n : Nat} (hW : Wf σ) (hn : n < 20) : blL σ n < 0 ↔ blm σ n = 0 := by
  have h2 := biN_lt hW hn (Nat.le_refl (sP σ))
  have h3 : 10 ^ sP σ ≤ 10 ^ 6 := Nat.pow_le_pow_right (by decide) hW.P
  unfold blL blm
  have h0 : (0 : Int64).toInt = 0 := by decide
  have h9 : (-1 : Int64).toInt = -1 := by decide
  by_cases b : dk σ n = 0
  · rw [if_pos b, if_pos b, Int64.lt_iff_toInt_lt, lN_toInt (by omega), h0]; omega
  · rw [if_neg b, if_neg b, Int64.lt_iff_toInt_lt, h0, h9]; omega
theorem rwN_lt (hW : Wf σ) {n : Nat} (hn : n < 20) : ∀ {p : Nat}, p ≤ sP σ → rwN σ n p < 11 ^ p
  | 0, _ => by simp [rwN]
  | p + 1, h => by
    have h1 := rwN_lt hW hn (show p ≤ sP σ by omega)
    have h2 := T_le hW (show p < sP σ by omega) hn
    have h3 := hW.A
    rw [rwN, Nat.pow_succ]; omega
theorem rwN_mod (hW : Wf σ) {n p : Nat} (hn : n < 20) (hp : p < sP σ) : rwN σ n (p + 1) % 11 = T σ n p := by
  have h2 := T_le hW hp hn
  have h3 := hW.A
  rw [rwN]; omega
theorem rwN_div (hW : Wf σ) {n p : Nat} (hn : n < 20) (hp : p < sP σ) : rwN σ n (p + 1) / 11 = rwN σ n p := by
  have h2 := T_le hW hp hn
  have h3 := hW.A
  rw [rwN]; omega
theorem oAll_wf {a k : Nat} (h : Wf σ) (ha : a < sA σ) : Wf (oAll σ a k) := by
  have hI : ∀ b m, sI (oAll σ a k) b m = if b = a ∧ m < k then 1 else sI σ b m := fun b m => by simp [sI, oAll]
  refine Wf_mk h.P h.A h.S h.O0 h.O1 h.2.2.2.2.2.1 ?_ ?_ (fun p n hp hn => h.R hp hn) (fun p hp => h.C hp) (fun p k hp hk => h.U hp hk) (fun k hk => h.L hk)
  · intro b m
    rw [hI]
    split
    · exact Nat.le_refl 1
    · exact h.I b m
  · intro b m hb
    have hb : sA σ ≤ b := hb
    rw [hI, if_neg (by omega)]
    exact h.I0 m hb
theorem oAll_I (a k b m : Nat) : sI (oAll σ a k) b m = if b = a ∧ m < k then 1 else sI σ b m := by simp [sI, oAll]
theorem bu_le (σ : Sg) (p : Nat) : ∀ a, (bu σ p a).1 ≤ a
  | 0 => Nat.le_refl 0
  | a + 1 => by have := bu_le σ p a; rw [bu]; split; exact Nat.le_refl _; omega
theorem nd_le (σ : Sg) : ∀ a, (nd σ a).1 ≤ a
  | 0 => Nat.le_refl 0
  | a + 1 => by have := nd_le σ a; rw [nd]; split; exact Nat.le_refl _; omega
/-- sets: a bit more -/
theorem bm_or {b : Nat → Nat} (h : ∀ k, b k ≤ 1) {n : Nat} (h1 : b n = 1) : bm b n ||| 2 ^ n = bm b (n + 1) := by
  refine Nat.eq_of_testBit_eq fun k => ?_
  rw [Nat.testBit_or, Nat.testBit_two_pow, bm_tb h, bm_tb h]
  by_cases e : n = k
  · subst e; simp [h1]
  · simp only [e, decide_false, Bool.or_false]; congr 1; ext; constructor <;> intro z <;> exact ⟨by omega, z.2⟩
theorem bm_no {b : Nat → Nat} {n : Nat} (h1 : b n = 0) : bm b n = bm b (n + 1) := by rw [bm, h1]; omega
theorem bmA {n : Nat} (hW : Wf σ) : bm (fun a => sI σ a n) (sA σ) = bm (fun a => sI σ a n) 10 := by
  refine Nat.eq_of_testBit_eq fun k => ?_
  rw [bm_tb (fun a => hW.I a n), bm_tb (fun a => hW.I a n)]
  congr 1; ext; constructor
  · intro z; have := hW.A; exact ⟨by omega, z.2⟩
  · intro z
    refine ⟨?_, z.2⟩
    rcases Nat.lt_or_ge k (sA σ) with q | q
    · exact q
    · have h1 := hW.I0 n q
      have h2 : sI σ k n = 1 := z.2
      omega
end
