abbrev vJ (x : Int32) (h : Nat) : Prop := 1 ≤ x.toInt ∧ x.toInt ≤ (h : Int)
theorem in_1N {i h : Nat} (hi : i < 2147483648) (hh : h < 2147483648) : (lN 1 ≤ lN i ∧ lN i ≤ lN h) ↔ 1 ≤ i ∧ i ≤ h := by
  rw [lN_le (by decide) hi, lN_le hi hh]
theorem in_1r {x : Int32} {h : Nat} (hh : h < 2147483648) : (lN 1 ≤ x.toInt64 ∧ x.toInt64 ≤ lN h) ↔ vJ x h := by
  rw [Int64.le_iff_toInt_le, Int64.le_iff_toInt_le, tl32, lN_toInt hh, lN_toInt (by decide)]; exact Iff.rfl
theorem in_NB {i h : Nat} (hi : i < 2 ^ 63) (hh : h < 2 ^ 63) : (lN 0 ≤ lN i ∧ lN i ≤ lN h) ↔ i ≤ h := by
  rw [pk_lLE (by decide) hi, pk_lLE hi hh]; omega
abbrev gk (S n k : Nat) : Nat := S / 100000 ^ (n - 1 - k) % 100000
def stS (σ : Sg) (S n : Nat) : Nat → Sg
  | 0 => σ
  | k + 1 => cmS (stS σ S n k) (gk S n k / 10000) (gk S n k % 10000)
theorem stS_wf {σ : Sg} (hW : Wf σ) (S n : Nat) : ∀ k, Wf (stS σ S n k)
  | 0 => hW
  | k + 1 => cmS_wf (stS_wf hW S n k) _ _
def srB (σ : Sg) (S n : Nat) (k : Nat) : Bool := decide (cmN (stS σ S n k) (gk S n k / 10000) (gk S n k % 10000) = 0)
def srN (σ : Sg) (S n : Nat) : Nat := if fa_first (srB σ S n) n < n then fa_first (srB σ S n) n + 1 else 0
theorem srN_y {σ : Sg} {S n k : Nat} (hk : k < n) (h : srB σ S n k = true) (h0 : ∀ j, j < k → srB σ S n j = false) : srN σ S n = k + 1 := by
  unfold srN; rw [fa_first_at hk h h0, if_pos hk]
theorem srN_n {σ : Sg} {S n : Nat} (h0 : ∀ j, j < n → srB σ S n j = false) : srN σ S n = 0 := by
  unfold srN
  rw [if_neg]
  intro z
  have := fa_first_yes (srB σ S n) n z
  rw [h0 _ z] at this; cases this
theorem p5 {m : Nat} (h : m ≤ 3) : 0 < 100000 ^ m ∧ 100000 ^ m ≤ 1000000000000000 := ⟨Nat.pow_pos (by decide), Nat.le_trans (Nat.pow_le_pow_right (by decide) h) (by decide)⟩
theorem p5d {n k : Nat} (h : k < n) : 100000 ^ (n - k) / 100000 = 100000 ^ (n - 1 - k) := by
  rw [show n - k = n - 1 - k + 1 from by omega, Nat.pow_succ, Nat.mul_div_cancel _ (by decide)]
def tuS (σ : Sg) (x : Nat) : Sg :=
  if x % 8 < 2 then tCast σ (x / 8 % 6) (x / 8 / 6 % 10 + 1) (x / 8 / 64 % 20)
  else if x % 8 = 2 then tStudy σ (x / 8 % 6) (x / 8 / 6 % 10)
  else if x % 8 < 6 then tIll σ (x / 8 % 10) (x / 8 / 16 % 20) (if 0 < x / 8 / 512 % 3 then 1 else 0)
  else if x % 8 = 6 then tSlip σ (x / 8 % 20) (x / 8 / 32 % 6) (x / 8 / 256 % 10) (x / 8 / 4096 % 24)
  else tLose σ (x / 8 % 20)
theorem tuS_wf {σ : Sg} (hW : Wf σ) (x : Nat) : Wf (tuS σ x) := by
  unfold tuS
  split; exact tCast_wf hW
  split; exact tStudy_wf hW
  split; exact tIll_wf hW (by split <;> omega)
  split; exact tSlip_wf hW
  exact tLose_wf hW
def lcg (x : Int64) : Int64 := x * 6364136223846793005 + 1442695040888963407
def sx (x : Int64) : Nat → Int64
  | 0 => x
  | k + 1 => lcg (sx x k)
def hi31 (x : Int64) : Nat := x.toUInt64.toNat / 2 ^ 33
theorem hi31_lt (x : Int64) : hi31 x < 2147483648 := by
  unfold hi31
  have := x.toUInt64.toNat_lt
  omega
def siS (σ : Sg) (x : Int64) : Nat → Sg
  | 0 => σ
  | k + 1 => tuS (siS σ x k) (hi31 (sx x (k + 1)))
theorem siS_wf {σ : Sg} (hW : Wf σ) (x : Int64) : ∀ k, Wf (siS σ x k)
  | 0 => hW
  | k + 1 => tuS_wf (siS_wf hW x k) _
theorem u_lN (u : UInt64) : u.toInt64 = lN u.toNat := by
  apply Int64.toBitVec_inj.mp
  apply BitVec.eq_of_toNat_eq
  show u.toNat = (BitVec.ofNat 64 u.toNat).toNat
  rw [BitVec.toNat_ofNat, Nat.mod_eq_of_lt u.toNat_lt]
theorem hi31_e (x : Int64) : ((x.toUInt64 >>> ((nI 33).toInt64.toUInt64 &&& Int64.toUInt64 63)).toInt64).toInt32 = nI (hi31 x) := by
  rw [u_lN, lN_i, UInt64.toNat_shiftRight, show (((nI 33).toInt64.toUInt64 &&& Int64.toUInt64 63)).toNat % 64 = 33 from by decide, Nat.shiftRight_eq_div_pow]; rfl
theorem l_nzB {d : Nat} (h0 : 0 < d) (hd : d < 2 ^ 63) : ¬ lN d = 0 := fun e => by
  have h1 := congrArg Int64.toInt e
  have h2 : (0 : Int64).toInt = 0 := by decide
  rw [pk_lT hd] at h1
  omega
