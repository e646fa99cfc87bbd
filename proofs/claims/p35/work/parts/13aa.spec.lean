/-! what the property asks of the states, in plain numbers -/
section LS
variable {σ : Sg}
theorem nt_set {n p : Nat} (h : T σ n p ≠ 0) : us σ n p / 2 ^ (T σ n p - 1) % 2 = 0 := (tbd0 _ _).mpr (tk_can (σ := σ) (n := n) (p := p) (u := us σ n p) h).2
theorem nt_ill {n p : Nat} (hW : Wf σ) (hp : p < sP σ) (hn : n < 20) (h : T σ n p ≠ 0) : bm (fun a => sI σ a n) 10 / 2 ^ (T σ n p - 1) % 2 = 0 := by
  have h1 := T_le hW hp hn
  have h2 := hW.A
  rw [bmC_bit hW n (by omega)]
  exact (tk_can (σ := σ) (n := n) (p := p) (u := us σ n p) h).1
theorem nt_why0 {n p : Nat} : Wy σ n p = 0 ↔ T σ n p = 0 := why_0
theorem nt_own {n p : Nat} (h : Wy σ n p = 2) : T σ n p = sR σ p n := by
  unfold Wy why at h
  unfold T tk
  by_cases z : sl σ n p (us σ n p) ≠ 0
  · rw [if_pos z] at h; omega
  · rw [if_neg z] at h ⊢
    by_cases y : own σ n p (us σ n p)
    · rw [if_pos y]
    · rw [if_neg y] at h
      split at h <;> omega
theorem slC_pos {n p k : Nat} (h0 : sL σ k 0 = n) (h1 : sL σ k 1 = p) : ∀ {m : Nat}, k < m → 0 < slC σ n p m
  | 0, h => absurd h (Nat.not_lt_zero k)
  | m + 1, h => by
    rw [slC]
    by_cases e : k = m
    · subst e; rw [if_pos ⟨h0, h1⟩]; omega
    · have := slC_pos h0 h1 (show k < m by omega)
      split <;> omega
theorem nt_slip {n p : Nat} (h : Wy σ n p = 1) : 0 < slC σ n p (sS σ) := by
  unfold Wy why at h
  by_cases z : sl σ n p (us σ n p) ≠ 0
  · have h1 := sl_at z
    have h2 := sl_le σ n p (us σ n p)
    exact slC_pos h1.1 h1.2.1 (by omega)
  · rw [if_neg z] at h
    split at h
    · omega
    · split at h <;> omega
theorem nt_pr {n p : Nat} (hW : Wf σ) (hp : p < sP σ) (hn : n < 20) (h0 : sR σ p n ≠ 0) (h1 : ¬ bm (fun a => sI σ a n) 10 / 2 ^ (sR σ p n - 1) % 2 = 1) (h2 : ¬ us σ n p / 2 ^ (sR σ p n - 1) % 2 = 1) (h3 : ¬ Wy σ n p = 1) : Wy σ n p = 2 := by
  have hr := hW.R hp hn
  have hA := hW.A
  rw [bmC_bit hW n (by omega)] at h1
  have hi := hW.I (sR σ p n - 1) n
  have ho : own σ n p (us σ n p) := ⟨h0, by omega, by
    rw [← tbd0]
    have : us σ n p / 2 ^ (sR σ p n - 1) % 2 < 2 := Nat.mod_lt _ (by decide)
    omega⟩
  unfold Wy why at h3 ⊢
  by_cases z : sl σ n p (us σ n p) ≠ 0
  · rw [if_pos z] at h3; omega
  · rw [if_neg z, if_pos ho]
theorem nt_us0 {n p : Nat} (h : T σ n p = 0) : us σ n p ||| 0 = us σ n (p + 1) := by rw [us_s, if_pos h, Nat.or_zero]
theorem nt_us1 {n p : Nat} (h : T σ n p ≠ 0) : us σ n p ||| 2 ^ (T σ n p - 1) = us σ n (p + 1) := by rw [us_s, if_neg h]
theorem nt_d1 {n p : Nat} (h : dkN σ n p = 1 ∨ T σ n p = 0) : dkN σ n (p + 1) = 1 := by rw [dkN, if_pos h]
theorem nt_d0 {n p : Nat} (h : ¬ dkN σ n p = 1) (h2 : ¬ T σ n p = 0) : dkN σ n (p + 1) = 0 := by rw [dkN, if_neg (fun z => z.elim h h2)]
theorem nt_o0 {n p : Nat} (h : T σ n p = sR σ p n) : otN σ n p + 0 = otN σ n (p + 1) := by rw [otN, if_pos h]
theorem nt_o1 {n p : Nat} (h : ¬ T σ n p = sR σ p n) : otN σ n p + 1 = otN σ n (p + 1) := by rw [otN, if_neg h]
theorem nt_f0 {n p : Nat} (h : T σ n p = 0) : fam σ n p + 0 = fam σ n (p + 1) := by rw [fam, sFm, if_pos h]
theorem nt_f1 {n p : Nat} (h : T σ n p ≠ 0) : fam σ n p + sF σ (T σ n p - 1) = fam σ n (p + 1) := by rw [fam, sFm, if_neg h]
theorem nt_dk (σ : Sg) (n : Nat) : dkN σ n (sP σ) = dk σ n := rfl
theorem nt_p1 {n : Nat} (h : dk σ n = 1) : plr σ n = 0 := if_pos h
theorem nt_p0 {n : Nat} (h : ¬ dk σ n = 1) : plr σ n = us σ n (sP σ) := if_neg h
theorem nt_k1 {n : Nat} (h : dk σ n = 1) : otk σ n = 0 := if_neg (by omega)
theorem nt_k0 {n : Nat} (h : ¬ dk σ n = 1) : otk σ n = otN σ n (sP σ) := if_pos (by have := dk_le σ n; omega)
theorem nt_t1 {n : Nat} (h : dk σ n = 1) : tak σ n = 0 := if_pos h
theorem nt_t0 {n : Nat} (h : ¬ dk σ n = 1) : tak σ n = sO σ 0 + sO σ 1 * fam σ n (sP σ) := if_neg h
theorem pT_1 {n p : Nat} (h : dk σ n = 1) : pT σ n p = 0 := if_neg (by omega)
theorem pT_0 {n p : Nat} (h : ¬ dk σ n = 1) : pT σ n p = T σ n p := if_pos (by have := dk_le σ n; omega)
-- nights of an actor
theorem pc_y {a n : Nat} (h : ply σ n a ≠ 0) : pcN σ a n + 1 = pcN σ a (n + 1) := by rw [pcN, if_neg h]
theorem pc_n {a n : Nat} (h : ¬ ply σ n a ≠ 0) : pcN σ a n + 0 = pcN σ a (n + 1) := by rw [pcN, if_pos (Decidable.not_not.mp h)]
theorem pf_y {a n : Nat} (h : ply σ n a ≠ 0) (h0 : pfN σ a n = 0) : n + 1 = pfN σ a (n + 1) := by rw [pfN, if_pos ⟨h, h0⟩]
theorem pf_n {a n : Nat} (h : ¬ (ply σ n a ≠ 0 ∧ pfN σ a n = 0)) : pfN σ a n = pfN σ a (n + 1) := by rw [pfN, if_neg h]
theorem pl_y {a n : Nat} (h : ply σ n a ≠ 0) : n + 1 = plN σ a (n + 1) := by rw [plN, if_neg h]
theorem pl_n {a n : Nat} (h : ¬ ply σ n a ≠ 0) : plN σ a n = plN σ a (n + 1) := by rw [plN, if_pos (Decidable.not_not.mp h)]
theorem fd_mono (p a : Nat) {m : Nat} : ∀ {n : Nat}, m ≤ n → fdC σ p a m ≤ fdC σ p a n
  | 0, h => by rw [show m = 0 from by omega]; exact Nat.le_refl _
  | n + 1, h => by
    by_cases e : m = n + 1
    · rw [e]; exact Nat.le_refl _
    · have := fd_mono p a (show m ≤ n by omega)
      rw [fdC]; omega
theorem fd_s {p a n : Nat} (h : isPl σ p a n) : fdC σ p a (n + 1) = fdC σ p a n + 1 := by rw [fdC, if_pos h]
theorem fd_ex {p a k : Nat} : ∀ {N : Nat}, k < fdC σ p a N → ∃ n, n < N ∧ isPl σ p a n ∧ fdC σ p a n = k
  | 0, h => absurd h (Nat.not_lt_zero k)
  | N + 1, h => by
    by_cases q : k < fdC σ p a N
    · obtain ⟨n, h1, h2⟩ := fd_ex q
      exact ⟨n, by omega, h2⟩
    · rw [fdC] at h
      by_cases e : isPl σ p a N
      · rw [if_pos e] at h; exact ⟨N, by omega, e, by omega⟩
      · rw [if_neg e] at h; omega
theorem fd_yes {p a k : Nat} (h : k < fdC σ p a 20) : ∃ n, n < 20 ∧ isPl σ p a n ∧ fdC σ p a n = k ∧ fnd σ p a k = n + 1 := by
  obtain ⟨n, hn, h1, h2⟩ := fd_ex h
  refine ⟨n, hn, h1, h2, fnd_yes hn h1 h2 fun j hj => ?_⟩
  refine decide_eq_false ?_
  rintro ⟨z1, z2⟩
  have h3 := fd_s z1
  have h4 := fd_mono (σ := σ) p a (show j + 1 ≤ n by omega)
  omega
theorem fd_no {p a k : Nat} (h : ¬ k < fdC σ p a 20) : fnd σ p a k = 0 := by
  refine fnd_no fun j hj => decide_eq_false ?_
  rintro ⟨z1, z2⟩
  have h3 := fd_s z1
  have h4 := fd_mono (σ := σ) p a (show j + 1 ≤ 20 by omega)
  omega
theorem fd_le {p a k : Nat} (h : fnd σ p a k ≠ 0) : k < fdC σ p a 20 := by
  by_cases q : k < fdC σ p a 20
  · exact q
  · exact absurd (fd_no q) h
theorem fd_next {p a n m : Nat} (h1 : fdC σ p a m = fdC σ p a n + 1) : n + 1 ≤ m := by
  by_cases q : n + 1 ≤ m
  · exact q
  · have := fd_mono (σ := σ) p a (show m ≤ n by omega); omega
theorem lg_all (p a : Nat) : ∀ n, lgR σ p a n ≤ fdC σ p a n ∧ lgB σ p a n ≤ fdC σ p a n ∧ (lgB σ p a n = 0 ↔ fdC σ p a n = 0)
  | 0 => ⟨Nat.le_refl _, Nat.le_refl _, Iff.rfl⟩
  | n + 1 => by
    obtain ⟨h1, h2, h3⟩ := lg_all p a n
    have hr : lgR σ p a (n + 1) = if isPl σ p a n then lgR σ p a n + 1 else 0 := rfl
    have hb : lgB σ p a (n + 1) = if lgB σ p a n < lgR σ p a (n + 1) then lgR σ p a (n + 1) else lgB σ p a n := rfl
    have hf : fdC σ p a (n + 1) = fdC σ p a n + if isPl σ p a n then 1 else 0 := rfl
    by_cases e : isPl σ p a n
    · rw [if_pos e] at hr hf
      refine ⟨by omega, ?_, ?_⟩
      · rw [hb]; split <;> omega
      · rw [hb]; split <;> omega
    · rw [if_neg e] at hr hf
      refine ⟨by omega, ?_, ?_⟩
      · rw [hb]; split <;> omega
      · rw [hb]; split <;> omega
def plS (σ : Sg) (a : Nat) (p : Nat) : Nat := su (fun q => fdC σ q a 20) p
theorem plS_s (a p : Nat) : plS σ a p + fdC σ p a 20 = plS σ a (p + 1) := rfl
theorem pl_1 (n a : Nat) : su (fun p => if isPl σ p a n then 1 else 0) (sP σ) = if ply σ n a = 0 then 0 else 1 := by
  by_cases h : ply σ n a = 0
  · rw [if_pos h]
    refine su_z fun k hk => if_neg ?_
    rintro ⟨h1, h2⟩
    exact (ply_ex.mpr ⟨h1, k, hk, h2⟩) h
  · rw [if_neg h]
    obtain ⟨h1, q, hq, h2⟩ := ply_ex.mp h
    rw [su_1 (b := q) hq fun k hk hkq => if_neg ?_, if_pos ⟨h1, h2⟩]
    rintro ⟨-, h3⟩
    rcases Nat.lt_or_ge k q with z | z
    · exact T_inj z (by rw [h2]; omega) (by rw [h3, h2])
    · exact T_inj (show q < k by omega) (by rw [h3]; omega) (by rw [h3, h2])
theorem pl_N (a : Nat) : ∀ N, su (fun q => fdC σ q a N) (sP σ) = pcN σ a N
  | 0 => su_z fun k hk => rfl
  | N + 1 => by
    have h : su (fun q => fdC σ q a (N + 1)) (sP σ) = su (fun q => fdC σ q a N + if isPl σ q a N then 1 else 0) (sP σ) := rfl
    rw [h, su_add, pl_N a N, pl_1, pcN]
theorem pl_pc (a : Nat) : plS σ a (sP σ) = pcN σ a 20 := pl_N a 20
theorem dk_all : ∀ {n : Nat}, dkS σ n = n → ∀ j, j < n → dk σ j = 1
  | 0, _, j, hj => absurd hj (Nat.not_lt_zero j)
  | n + 1, h, j, hj => by
    rw [dkS] at h
    have h1 := dkS_le σ n
    have h2 := dk_le σ n
    by_cases e : j = n
    · rw [e]; omega
    · exact dk_all (show dkS σ n = n by omega) j (by omega)
theorem un_all : ∀ n, unlN σ n + dkS σ n ≤ n ∧ (unlN σ n = 0 ↔ dkS σ n = n)
  | 0 => ⟨Nat.le_refl _, Iff.intro (fun _ => rfl) (fun _ => rfl)⟩
  | n + 1 => by
    obtain ⟨h1, h2⟩ := un_all n
    have hu : unlN σ (n + 1) = unlN σ n + if newB σ n then 1 else 0 := rfl
    have hd : dkS σ (n + 1) = dkS σ n + dk σ n := rfl
    have h3 := dk_le σ n
    by_cases e : dk σ n = 0
    · by_cases b : newB σ n
      · rw [if_pos b] at hu
        exact ⟨by omega, ⟨fun z => by omega, fun z => by omega⟩⟩
      · rw [if_neg b] at hu
        refine ⟨by omega, ⟨fun z => ?_, fun z => by omega⟩⟩
        exfalso
        have h4 := dk_all (h2.mp (by omega))
        refine b ⟨by unfold blm; rw [if_pos e]; omega, fun j hj => ?_⟩
        unfold blm
        rw [if_neg (by have := h4 j hj; omega), if_pos e]
        omega
    · have b : ¬ newB σ n := fun z => z.1 (if_neg e)
      rw [if_neg b] at hu
      exact ⟨by omega, ⟨fun z => by have := h2.mp (by omega); omega, fun z => by have := h2.mpr (by omega); omega⟩⟩
theorem pa_all (a : Nat) : ∀ n, paN σ a n = 0 ↔ pcN σ a n = 0
  | 0 => Iff.intro (fun _ => rfl) (fun _ => rfl)
  | n + 1 => by
    have h := pa_all a n
    rw [paN, pcN]
    by_cases e : ply σ n a = 0
    · rw [if_pos e, if_pos e]; exact h
    · rw [if_neg e, if_neg e]
      refine ⟨fun z => ?_, fun z => by omega⟩
      have h1 : (paN σ a n ||| 2 ^ (ply σ n a - 1)).testBit (ply σ n a - 1) = true := by
        rw [Nat.testBit_or, Nat.testBit_two_pow_self, Bool.or_true]
      rw [z, Nat.zero_testBit] at h1
      cases h1
theorem tg_all (a : Nat) : ∀ n, tgN σ a a n = pcN σ a n
  | 0 => rfl
  | n + 1 => by
    rw [tgN, pcN, tg_all a n]
    by_cases e : ply σ n a = 0
    · rw [if_pos e, if_neg (fun z => z.1 e)]
    · rw [if_neg e, if_pos ⟨e, e⟩]
theorem us_y {k : Nat} (h : usd σ k) : usN σ k + 1 = usN σ (k + 1) := by rw [usN, if_pos h]
theorem us_n {k : Nat} (h : ¬ usd σ k) : usN σ k + 0 = usN σ (k + 1) := by rw [usN, if_neg h]
theorem usd_T {k : Nat} (h : usd σ k) : T σ (sL σ k 0) (sL σ k 1) = sL σ k 2 + 1 ∧ Wy σ (sL σ k 0) (sL σ k 1) = 1 := by
  have h2 : sl σ (sL σ k 0) (sL σ k 1) (us σ (sL σ k 0) (sL σ k 1)) = k + 1 := h.2
  unfold T tk Wy why
  rw [h2, if_pos (by omega), if_pos (by omega), Nat.add_sub_cancel]
  exact ⟨rfl, rfl⟩
-- an illness more, or less
theorem il_P (a n b : Nat) : sP (oIll σ a n b) = sP σ := rfl
theorem il_A (a n b : Nat) : sA (oIll σ a n b) = sA σ := rfl
theorem can_il {a n b m u x : Nat} (hm : m ≠ n) : can (oIll σ a n b) m u x = can σ m u x := by
  unfold can
  rw [ill_I, if_neg (fun z => hm z.2)]
theorem slF_il {a n b m p u : Nat} (hm : m ≠ n) : ∀ k, slF (oIll σ a n b) m p u k = slF σ m p u k
  | 0 => rfl
  | k + 1 => by
    have e : ∀ j i, sL (oIll σ a n b) j i = sL σ j i := fun j i => rfl
    rw [slF, slF, slF_il hm k]
    simp only [e, can_il hm]
theorem unP_il {a n b m p u : Nat} (hm : m ≠ n) (k : Nat) : unP (oIll σ a n b) m p u k = unP σ m p u k := by
  have e : sU (oIll σ a n b) p k = sU σ p k := rfl
  unfold unP
  simp only [e, can_il hm]
  rfl
theorem un_il {a n b m p u : Nat} (hm : m ≠ n) : un (oIll σ a n b) m p u = un σ m p u := by
  have e : unP (oIll σ a n b) m p u = unP σ m p u := funext fun k => unP_il hm k
  unfold un
  rw [e]
  rfl
theorem tk_il {a n b m p u : Nat} (hm : m ≠ n) : tk (oIll σ a n b) m p u = tk σ m p u := by
  have e1 : sl (oIll σ a n b) m p u = sl σ m p u := slF_il hm _
  have e2 : own (oIll σ a n b) m p u = own σ m p u := by
    unfold own
    rw [can_il hm]
    rfl
  unfold tk
  simp only [e1, e2, un_il hm]
  rfl
theorem us_il {a n b m : Nat} (hm : m ≠ n) : ∀ p, us (oIll σ a n b) m p = us σ m p
  | 0 => rfl
  | p + 1 => by rw [us, us, us_il hm p, tk_il hm]
theorem T_il {a n b m : Nat} (hm : m ≠ n) (p : Nat) : T (oIll σ a n b) m p = T σ m p := by unfold T; rw [us_il hm, tk_il hm]
theorem dkN_il {a n b m : Nat} (hm : m ≠ n) : ∀ p, dkN (oIll σ a n b) m p = dkN σ m p
  | 0 => rfl
  | p + 1 => by rw [dkN, dkN, dkN_il hm p, T_il hm]
theorem fam_il {a n b m : Nat} (hm : m ≠ n) : ∀ p, fam (oIll σ a n b) m p = fam σ m p
  | 0 => rfl
  | p + 1 => by
    rw [fam, fam, fam_il hm p, T_il hm]
    rfl
theorem tak_il {a n b m : Nat} (hm : m ≠ n) : tak (oIll σ a n b) m = tak σ m := by
  have e : dk (oIll σ a n b) m = dk σ m := dkN_il hm _
  have e2 : fam (oIll σ a n b) m (sP (oIll σ a n b)) = fam σ m (sP σ) := fam_il hm _
  unfold tak
  rw [e, e2]
  rfl
theorem tkS_lo {a n b : Nat} : ∀ {N : Nat}, N ≤ n → tkS (oIll σ a n b) N = tkS σ N
  | 0, _ => rfl
  | N + 1, h => by rw [tkS, tkS, tkS_lo (show N ≤ n by omega), tak_il (show N ≠ n by omega)]
theorem tkS_hi {a n b : Nat} : ∀ {N : Nat}, n < N → tkS (oIll σ a n b) N + tak σ n = tkS σ N + tak (oIll σ a n b) n
  | 0, h => absurd h (Nat.not_lt_zero n)
  | N + 1, h => by
    rw [tkS, tkS]
    by_cases e : n = N
    · subst e; rw [tkS_lo (Nat.le_refl _)]; omega
    · have := tkS_hi (a := a) (b := b) (show n < N by omega)
      rw [tak_il (show N ≠ n by omega)]; omega
theorem more_eq {a n b : Nat} (hn : n < 20) : nI (tkS (oIll σ a n b) 20) = nI (tkS σ 20) + (nI (tak (oIll σ a n b) n) - nI (tak σ n)) := by
  have h := tkS_hi (σ := σ) (a := a) (n := n) (b := b) hn
  have h2 : nI (tkS (oIll σ a n b) 20) + nI (tak σ n) = nI (tkS σ 20) + nI (tak (oIll σ a n b) n) := by rw [nI_add, nI_add, h]
  rw [Int32.sub_eq_add_neg, ← Int32.add_assoc, ← h2, Int32.add_assoc, ← Int32.sub_eq_add_neg, Int32.sub_self, Int32.add_zero]
theorem cnt_lo {a n b : Nat} : ∀ {N : Nat}, N ≤ n → cntI (oIll σ a n b) a N = cntI σ a N
  | 0, _ => rfl
  | N + 1, h => by rw [cntI, cntI, cnt_lo (show N ≤ n by omega), ill_I, if_neg (by omega)]
theorem cnt_hi {a n b : Nat} : ∀ {N : Nat}, n < N → cntI (oIll σ a n b) a N + sI σ a n = cntI σ a N + b
  | 0, h => absurd h (Nat.not_lt_zero n)
  | N + 1, h => by
    rw [cntI, cntI, ill_I]
    by_cases e : n = N
    · subst e; rw [cnt_lo (Nat.le_refl _), if_pos ⟨rfl, rfl⟩]; omega
    · have := cnt_hi (a := a) (b := b) (show n < N by omega)
      rw [if_neg (by omega)]; omega
theorem chg_bit {τ : Sg} {n p : Nat} (hp : p < sP σ) : chg σ τ n / 2 ^ p % 2 = if T σ n p = T τ n p then 0 else 1 := bm_bit (b := fun p => if T σ n p = T τ n p then 0 else 1) (fun k => by show (if _ then _ else _) ≤ 1; split <;> omega) hp
theorem chg_lt {τ : Sg} (hW : Wf σ) (n : Nat) : chg σ τ n < 64 := Nat.lt_of_lt_of_le (bm_lt (b := fun p => if T σ n p = T τ n p then 0 else 1) (fun k => by show (if _ then _ else _) ≤ 1; split <;> omega) _) (Nat.pow_le_pow_right (by decide) hW.P : 2 ^ sP σ ≤ 2 ^ 6)
-- undone
theorem push_top {hs : Nat → Sg} {cnt : Nat} (h : cnt ≤ 14) : pushH hs cnt σ (pushN cnt - 1) = σ := by
  unfold pushH pushN
  by_cases e : cnt = 14
  · rw [if_pos e, if_pos e]; exact if_pos rfl
  · rw [if_neg e, if_neg e]; exact if_pos (by omega)
theorem push_ne {cnt : Nat} : pushN cnt ≠ 0 := by unfold pushN; split <;> omega
-- the best one more understudy
abbrev cnd (σ : Sg) (p a : Nat) : Prop := p < sP σ ∧ a < sA σ ∧ sC σ p < 4 ∧ rk σ p a = 0
def btr (σ : Sg) (p b a : Nat) : Prop := dkS (oStudy σ p b) 20 < dkS (oStudy σ p a) 20 ∨ (dkS (oStudy σ p b) 20 = dkS (oStudy σ p a) 20 ∧ (tkS (oStudy σ p a) 20 < tkS (oStudy σ p b) 20 ∨ (tkS (oStudy σ p a) 20 = tkS (oStudy σ p b) 20 ∧ b ≤ a)))
theorem bu_inv (p : Nat) : ∀ A, ((bu σ p A).1 = 0 → ∀ a, a < A → ¬ cnd σ p a) ∧ ((bu σ p A).1 ≠ 0 → (bu σ p A).1 ≤ A ∧ cnd σ p ((bu σ p A).1 - 1) ∧ (bu σ p A).2.1 = dkS (oStudy σ p ((bu σ p A).1 - 1)) 20 ∧ (bu σ p A).2.2 = tkS (oStudy σ p ((bu σ p A).1 - 1)) 20 ∧ ∀ a, a < A → cnd σ p a → btr σ p ((bu σ p A).1 - 1) a)
  | 0 => ⟨fun _ a ha => absurd ha (Nat.not_lt_zero a), fun h => absurd rfl h⟩
  | A + 1 => by
    obtain ⟨h1, h2⟩ := bu_inv p A
    rw [bu]
    by_cases c : (p < sP σ ∧ A < sA σ ∧ sC σ p < 4 ∧ rk σ p A = 0) ∧ ((bu σ p A).1 = 0 ∨ dkS (oStudy σ p A) 20 < (bu σ p A).2.1 ∨ (dkS (oStudy σ p A) 20 = (bu σ p A).2.1 ∧ (bu σ p A).2.2 < tkS (oStudy σ p A) 20))
    · rw [if_pos c]
      refine ⟨fun h => absurd h (Nat.succ_ne_zero A), fun _ => ⟨Nat.le_refl _, c.1, rfl, rfl, fun a ha hc => ?_⟩⟩
      show btr σ p A a
      unfold btr
      by_cases e : a = A
      · subst e; exact Or.inr ⟨rfl, Or.inr ⟨rfl, Nat.le_refl _⟩⟩
      · by_cases z : (bu σ p A).1 = 0
        · exact absurd hc (h1 z a (by omega))
        · obtain ⟨h3, h4, h5, h6, h7⟩ := h2 z
          have h8 := h7 a (by omega) hc
          unfold btr at h8
          rw [← h5, ← h6] at h8
          rcases c.2 with y | y
          · exact absurd y z
          · omega
    · rw [if_neg c]
      refine ⟨fun h a ha hc => ?_, fun h => ?_⟩
      · by_cases e : a = A
        · subst e; exact c ⟨hc, Or.inl h⟩
        · exact h1 h a (by omega) hc
      · obtain ⟨h3, h4, h5, h6, h7⟩ := h2 h
        refine ⟨by omega, h4, h5, h6, fun a ha hc => ?_⟩
        by_cases e : a = A
        · subst e
          unfold btr
          rw [← h5, ← h6]
          have h8 : ¬ ((bu σ p a).1 = 0 ∨ dkS (oStudy σ p a) 20 < (bu σ p a).2.1 ∨ (dkS (oStudy σ p a) 20 = (bu σ p a).2.1 ∧ (bu σ p a).2.2 < tkS (oStudy σ p a) 20)) := fun z => c ⟨hc, z⟩
          omega
        · exact h7 a (by omega) hc
end LS
/-! a whole archive as a value, and what may follow what -/
abbrev Kt : Type := Sg × (Nat → Sg) × Nat × (Nat → Sg) × (Nat → Nat)
def kDo (K : Kt) (τ : Sg) : Kt := (τ, pushH K.2.1 K.2.2.1 K.1, pushN K.2.2.1, K.2.2.2.1, K.2.2.2.2)
def kUn (K : Kt) : Kt := (K.2.1 (K.2.2.1 - 1), K.2.1, K.2.2.1 - 1, K.2.2.2.1, K.2.2.2.2)
def kSv (K : Kt) (s : Nat) : Kt := (K.1, K.2.1, K.2.2.1, (fun i => if i = s then K.1 else K.2.2.2.1 i), (fun i => if i = s then 1 else K.2.2.2.2 i))
def kRs (K : Kt) (s : Nat) : Kt := (K.2.2.2.1 s, K.2.1, 0, K.2.2.2.1, K.2.2.2.2)
def gd (σ : Sg) : Prop := 1 ≤ sP σ ∧ 2 ≤ sA σ
def nx (σ τ : Sg) : Prop := sP τ ≤ sP σ + 1 ∧ sA τ ≤ sA σ + 1
def Gk (K : Kt) : Prop := gd K.1 ∧ K.2.2.1 ≤ 14 ∧ (∀ i, K.2.2.2.2 i = 1 → gd (K.2.2.2.1 i)) ∧ (∀ k, k + 1 < K.2.2.1 → nx (K.2.1 k) (K.2.1 (k + 1))) ∧ (K.2.2.1 ≠ 0 → nx (K.2.1 (K.2.2.1 - 1)) K.1)
theorem Gk_do {K : Kt} {τ : Sg} (h : Gk K) (hg : gd τ) (hn : nx K.1 τ) : Gk (kDo K τ) := by
  obtain ⟨σ, hs, cnt, ks, kd⟩ := K
  obtain ⟨h1, h2, h3, h4, h5⟩ := h
  refine ⟨hg, pushN_le _ h2, h3, ?_, fun _ => ?_⟩
  · intro k hk
    show nx (pushH hs cnt σ k) (pushH hs cnt σ (k + 1))
    have hk : k + 1 < pushN cnt := hk
    have h2 : cnt ≤ 14 := h2
    have h4 : ∀ k, k + 1 < cnt → nx (hs k) (hs (k + 1)) := h4
    have h5 : cnt ≠ 0 → nx (hs (cnt - 1)) σ := h5
    unfold pushN at hk
    unfold pushH
    by_cases e : cnt = 14
    · rw [if_pos e] at hk ⊢
      show nx (if k = 13 then σ else hs (k + 1)) (if k + 1 = 13 then σ else hs (k + 1 + 1))
      rw [if_neg (by omega)]
      by_cases q : k + 1 = 13
      · rw [if_pos q]
        have := h5 (by omega)
        rw [show k + 1 = cnt - 1 from by omega]; exact this
      · rw [if_neg q]; exact h4 (k + 1) (by omega)
    · rw [if_neg e] at hk ⊢
      show nx (if k = cnt then σ else hs k) (if k + 1 = cnt then σ else hs (k + 1))
      rw [if_neg (by omega)]
      by_cases q : k + 1 = cnt
      · rw [if_pos q]
        have := h5 (by omega)
        rw [show k = cnt - 1 from by omega]; exact this
      · rw [if_neg q]; exact h4 k (by omega)
  · show nx (pushH hs cnt σ (pushN cnt - 1)) τ
    rw [push_top h2]; exact hn
theorem Gk_un {K : Kt} (h : Gk K) (h0 : K.2.2.1 ≠ 0) (hg : gd (K.2.1 (K.2.2.1 - 1))) : Gk (kUn K) := by
  obtain ⟨σ, hs, cnt, ks, kd⟩ := K
  obtain ⟨h1, h2, h3, h4, h5⟩ := h
  have h2 : cnt ≤ 14 := h2
  have h0 : cnt ≠ 0 := h0
  have h4 : ∀ k, k + 1 < cnt → nx (hs k) (hs (k + 1)) := h4
  refine ⟨hg, by show cnt - 1 ≤ 14; omega, h3, fun k hk => ?_, fun hc => ?_⟩
  · have hk : k + 1 < cnt - 1 := hk
    exact h4 k (by omega)
  · have hc : cnt - 1 ≠ 0 := hc
    show nx (hs (cnt - 1 - 1)) (hs (cnt - 1))
    have := h4 (cnt - 1 - 1) (by omega)
    rwa [show cnt - 1 - 1 + 1 = cnt - 1 from by omega] at this
theorem Gk_sv {K : Kt} (h : Gk K) (s : Nat) : Gk (kSv K s) := by
  obtain ⟨h1, h2, h3, h4, h5⟩ := h
  refine ⟨h1, h2, fun i hi => ?_, h4, h5⟩
  show gd (if i = s then K.1 else K.2.2.2.1 i)
  by_cases e : i = s
  · rw [if_pos e]; exact h1
  · rw [if_neg e]
    have hi : (if i = s then 1 else K.2.2.2.2 i) = 1 := hi
    rw [if_neg e] at hi
    exact h3 i hi
theorem Gk_rs {K : Kt} (h : Gk K) {s : Nat} (hs : K.2.2.2.2 s = 1) : Gk (kRs K s) :=
  ⟨h.2.2.1 s hs, Nat.zero_le _, h.2.2.1, fun k hk => absurd hk (Nat.not_lt_zero _), fun hc => absurd rfl hc⟩
/-- done and undone: the state is as before -/
theorem Gk_back {K : Kt} {τ : Sg} (h : Gk K) (hg : gd τ) (hn : nx K.1 τ) : Gk (kUn (kDo K τ)) ∧ (kUn (kDo K τ)).1 = K.1 := by
  have e : (kUn (kDo K τ)).1 = K.1 := push_top h.2.1
  exact ⟨Gk_un (Gk_do h hg hn) push_ne (by show gd (kUn (kDo K τ)).1; rw [e]; exact h.1), e⟩
