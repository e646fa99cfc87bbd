theorem svL {v v' : Int64} (h : v = v') : some (Value.long v) = some (Value.long v') := by rw [h]
theorem lM1 (a : Nat) (h : a < 2147483648) : (mI a).toInt64 + lN 1 = lN a := by
  apply Int64.toInt.inj
  rw [Int64.toInt_add, tl32, mI_toInt h, lN_toInt (by decide), lN_toInt h, show ((a : Int) - 1 + ((1 : Nat) : Int)) = (a : Int) from by omega]
  apply Int.bmod_eq_of_le <;> omega
theorem RepM_w {σ : Sg} {g : Nat → Int32} (hR : RepM σ g) {w : Nat} (hw : w < 3) : g w = nI (if w = 0 then sP σ else if w = 1 then sA σ else sS σ) := by
  rcases (by omega : w = 0 ∨ w = 1 ∨ w = 2) with e | e | e <;> subst e
  · exact hR.1
  · exact hR.2.1
  · exact hR.2.2.1
def nwB (σ : Sg) (n i : Nat) : Nat := if blm σ n ≠ 0 ∧ ∀ j, j < i → blm σ j ≠ blm σ n then 1 else 0
theorem nwB_0 (σ : Sg) (n : Nat) : nwB σ n 0 = if blm σ n = 0 then 0 else 1 := by
  unfold nwB
  by_cases e : blm σ n = 0
  · rw [if_neg (fun z => z.1 e), if_pos e]
  · rw [if_pos ⟨e, fun j hj => absurd hj (Nat.not_lt_zero j)⟩, if_neg e]
theorem nwB_n {σ : Sg} {n i : Nat} (h : nwB σ n i = 0) : nwB σ n (i + 1) = 0 := by
  unfold nwB at h ⊢
  rw [if_neg]
  rintro ⟨h1, h2⟩
  rw [if_pos ⟨h1, fun j hj => h2 j (by omega)⟩] at h
  cases h
theorem nwB_e {σ : Sg} {n i : Nat} (h : blm σ i = blm σ n) : nwB σ n (i + 1) = 0 := by
  unfold nwB
  exact if_neg (fun z => z.2 i (by omega) h)
theorem nwB_y {σ : Sg} {n i : Nat} (h : nwB σ n i ≠ 0) (h2 : blm σ i ≠ blm σ n) : nwB σ n (i + 1) = 1 := by
  unfold nwB at h ⊢
  by_cases c : blm σ n ≠ 0 ∧ ∀ j, j < i → blm σ j ≠ blm σ n
  · rw [if_pos ⟨c.1, lt_step c.2 h2⟩]
  · rw [if_neg c] at h; exact absurd rfl h
theorem unlN_s (σ : Sg) (n : Nat) : unlN σ (n + 1) = unlN σ n + nwB σ n n := rfl
def aAbout (σ : Sg) (w : Nat) : Int32 := if w < 3 then nI (if w = 0 then sP σ else if w = 1 then sA σ else sS σ) else if w = 3 then nI (dkS σ 20) else if w = 4 then nI (tkS σ 20) else if w = 5 then nI (unlN σ 20) else nI (usN σ (sS σ))
def aPlayed (σ : Sg) (n p : Nat) : Int32 := if dk σ n = 1 then mI 0 else mI (T σ n p)
def slC9 (σ : Sg) (n p : Nat) : Nat → Nat
  | 0 => 0
  | k + 1 => slC9 σ n p k + if sL σ k 0 = n ∧ sL σ k 1 = p then 1 else 0
theorem slC9_le (σ : Sg) (n p : Nat) : ∀ k, slC9 σ n p k ≤ k
  | 0 => Nat.le_refl 0
  | k + 1 => by have := slC9_le σ n p k; rw [slC9]; split <;> omega
def aBill (σ : Sg) (n p w : Nat) : Int32 := if w = 0 then mI (sR σ p n) else if w = 1 then mI (T σ n p) else if w = 2 then nI (Wy σ n p) else nI (slC9 σ n p (sS σ))
def aNight (σ : Sg) (n w : Nat) : Int32 := if w = 0 then nI (dk σ n) else if w = 1 then nI (tak σ n) else if w = 2 then nI (bm (fun a => sI σ a n) (sA σ)) else if w = 3 then nI (plr σ n) else nI (otk σ n)
def aActor (σ : Sg) (a w : Nat) : Int32 := if w = 0 then nI (sF σ a) else if w = 1 then nI (pcN σ a 20) else if w = 2 then mI (pfN σ a 20) else if w = 3 then mI (plN σ a 20) else if w = 4 then nI (paN σ a 20) else nI (cntI σ a 20)
def aRank (σ : Sg) (p k : Nat) : Int32 := if k < sC σ p then nI (sU σ p k) else mI 0
def aFound (σ : Sg) (k w : Nat) : Int32 := if w < 4 then nI (sL σ k w) else nI (if usd σ k then 1 else 0)
theorem lrow {v t : Nat} (h : t < 2147483648) : lN (11 * v) + (mI t).toInt64 + lN 1 = lN (11 * v + t) := by
  rw [Int64.add_assoc, lM1 t h, lN_add]
theorem setE {σ : Sg} {n q set : Nat} (h : set = us σ n q) (hq : q ≤ sP σ) (hd : dk σ n = 1 ∧ q = 0 ∨ dk σ n = 0 ∧ q = sP σ) : set = plr σ n := by
  unfold plr
  rcases hd with ⟨d, e⟩ | ⟨d, e⟩
  · rw [if_pos d, h, e]; rfl
  · rw [if_neg (by omega), h, e]
theorem otE {σ : Sg} {n q o : Nat} (h : o = otN σ n q) (hq : q ≤ sP σ) (hd : dk σ n = 1 ∧ q = 0 ∨ dk σ n = 0 ∧ q = sP σ) : o = otk σ n := by
  unfold otk
  rcases hd with ⟨d, e⟩ | ⟨d, e⟩
  · rw [if_neg (by omega), h, e]; rfl
  · rw [if_pos d, h, e]
