theorem l_nz {d : Nat} (h0 : 0 < d) (hd : d < 2147483648) : ¬ lN d = 0 := fun e => by
  have h1 := congrArg Int64.toInt e
  have h2 : (0 : Int64).toInt = 0 := by decide
  rw [lN_toInt hd] at h1
  omega
theorem bm_all : bm (fun _ => 1) 20 = 1048575 := by decide
theorem RepM_all {σ : Sg} {f : Nat → Int32} (hR : RepM σ f) (hW : Wf σ) {a : Nat} (ha : a < sA σ) : RepM (oAll σ a 20) (upd f (15 + a) (nI 1048575)) := by
  have hwP := hW.P
  have hwA := hW.A
  have hwS := hW.S
  refine ⟨?_, ?_, ?_, ?_, ?_, ?_, ?_, ?_, ?_, ?_⟩
  · rw [pk_un (by omega)]; exact hR.P
  · rw [pk_un (by omega)]; exact hR.A
  · rw [pk_un (by omega)]; exact hR.S
  · intro i hi; rw [pk_un (by omega)]; exact hR.O hi
  · intro a ha
    have ha : a < sA σ := ha
    rw [pk_un (by omega)]; exact hR.F ha
  · intro b hb
    have hb : b < sA σ := hb
    by_cases e : b = a
    · subst e; rw [pk_us]; exact congrArg nI (bm_all.symm.trans (bm_cong (fun m hm => by rw [oAll_I, if_pos ⟨rfl, hm⟩])))
    · rw [pk_un (by omega), hR.I hb]; exact congrArg nI (bm_cong (fun m _ => by rw [oAll_I, if_neg (fun z => e z.1)]))
  · intro q hq
    have hq : q < sP σ := hq
    rw [pk_un (by omega)]; exact hR.C hq
  · intro q k hq hk
    have hq : q < sP σ := hq
    have hk : k < sC σ q := hk
    have := hW.C hq
    rw [pk_un (by omega)]; exact hR.U hq hk
  · intro q n hq hn
    have hq : q < sP σ := hq
    rw [pk_un (by omega)]; exact hR.R hq hn
  · intro k j hk hj
    have hk : k < sS σ := hk
    rw [pk_un (by omega)]; exact hR.L hk hj
theorem RepM_cp {σ : Sg} {f g : Nat → Int32} (hR : RepM σ f) (hW : Wf σ) : RepM σ (va_cpy f g 0 0 255) := RepM_eq hW hR (fun j hj => by rw [cpyWhole hj, Nat.zero_add])
def oFl (σ : Sg) (a n : Nat) : Sg := oIll σ a n (1 - sI σ a n)
theorem bu_y {σ : Sg} {p a b f m d s : Nat} (hb : (b, f, m) = bu σ p a) (hc : p < sP σ ∧ a < sA σ ∧ sC σ p < 4 ∧ rk σ p a = 0) (hd : d = dkS (oStudy σ p a) 20) (hs : s = tkS (oStudy σ p a) 20) (h : b = 0 ∨ d < f ∨ (d = f ∧ m < s)) : (a + 1, d, s) = bu σ p (a + 1) := by
  rw [bu, ← hb, if_pos ⟨hc, by rw [← hd, ← hs]; exact h⟩, hd, hs]
theorem bu_n {σ : Sg} {p a b f m : Nat} (hb : (b, f, m) = bu σ p a) (h : ¬ ((p < sP σ ∧ a < sA σ ∧ sC σ p < 4 ∧ rk σ p a = 0) ∧ (b = 0 ∨ dkS (oStudy σ p a) 20 < f ∨ (dkS (oStudy σ p a) 20 = f ∧ m < tkS (oStudy σ p a) 20)))) : (b, f, m) = bu σ p (a + 1) := by
  rw [bu, ← hb, if_neg h]
theorem nd_y {σ : Sg} {a b m : Nat} (hb : (b, m) = nd σ a) (h : b = 0 ∨ m < dkS (oAll σ a 20) 20) : (a + 1, dkS (oAll σ a 20) 20) = nd σ (a + 1) := by
  rw [nd, ← hb, if_pos h]
theorem nd_n {σ : Sg} {a b m : Nat} (hb : (b, m) = nd σ a) (h : ¬ (b = 0 ∨ m < dkS (oAll σ a 20) 20)) : (b, m) = nd σ (a + 1) := by
  rw [nd, ← hb, if_neg h]
theorem tp_add {q m : Nat} : 2 ^ (q + 1) * m ||| 2 ^ q = 2 ^ (q + 1) * m + 2 ^ q := (Nat.two_pow_add_eq_or_of_lt (Nat.pow_lt_pow_right (by decide) (Nat.lt_succ_self q)) m).symm
def KeepM (ks : Nat → Sg) (kd : Nat → Nat) (K Z : Nat → Int32) : Prop := ∀ i, i < 2 → kd i ≤ 1 ∧ Z i = nI (kd i) ∧ (kd i = 1 → Wf (ks i) ∧ RepM (ks i) (fun j => K (255 * i + j)))
theorem KeepM_s {ks : Nat → Sg} {kd : Nat → Nat} {K Z g : Nat → Int32} {σ : Sg} (h : KeepM ks kd K Z) {s : Nat} (hs : s < 2) (hW : Wf σ) (hR : RepM σ g) : KeepM (fun i => if i = s then σ else ks i) (fun i => if i = s then 1 else kd i) (va_cpy g K 0 (255 * s) 255) (upd Z s (nI 1)) := by
  intro i hi
  obtain ⟨h1, h2, h3⟩ := h i hi
  show (if i = s then 1 else kd i) ≤ 1 ∧ _ = nI (if i = s then 1 else kd i) ∧ ((if i = s then 1 else kd i) = 1 → Wf (if i = s then σ else ks i) ∧ RepM (if i = s then σ else ks i) (fun j => va_cpy g K 0 (255 * s) 255 (255 * i + j)))
  by_cases e : i = s
  · subst e
    rw [if_pos rfl, if_pos rfl]
    refine ⟨Nat.le_refl 1, pk_us, fun _ => ⟨hW, RepM_eq hW hR (fun j hj => ?_)⟩⟩
    show va_cpy g K 0 (255 * i) 255 (255 * i + j) = g j
    unfold va_cpy
    rw [if_pos (by omega)]; congr 1; omega
  · rw [if_neg e, if_neg e]
    refine ⟨h1, (pk_un e).trans h2, fun z => ⟨(h3 z).1, RepM_eq (h3 z).1 (h3 z).2 (fun j hj => ?_)⟩⟩
    show va_cpy g K 0 (255 * s) 255 (255 * i + j) = K (255 * i + j)
    unfold va_cpy
    rw [if_neg (by omega)]
