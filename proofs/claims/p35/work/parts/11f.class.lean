/-! the bits of a number counted by the byte -/
theorem and_b {x y m M : Nat} (hx : x < 256) (hm : m < 256) : (x + 256 * y) &&& (m + 256 * M) = (x &&& m) + 256 * (y &&& M) := by
  have h1 : ((x + 256 * y) &&& (m + 256 * M)) % 2 ^ 8 = x &&& m := by
    rw [Nat.and_mod_two_pow, show (x + 256 * y) % 2 ^ 8 = x from by omega, show (m + 256 * M) % 2 ^ 8 = m from by omega]
  have h2 : ((x + 256 * y) &&& (m + 256 * M)) / 2 ^ 8 = y &&& M := by
    rw [Nat.and_div_two_pow, show (x + 256 * y) / 2 ^ 8 = y from by omega, show (m + 256 * M) / 2 ^ 8 = M from by omega]
  omega
theorem and_t {x m M : Nat} (hx : x < 256) (hm : m < 256) : x &&& (m + 256 * M) = x &&& m := by
  have := and_b (y := 0) (M := M) hx hm
  rw [Nat.zero_and] at this
  simpa using this
def bcA (s : Nat) : Nat := s - (s / 2 ^ 1 &&& 1431655765)
def bcB (x : Nat) : Nat := (x &&& 858993459) + (x / 2 ^ 2 &&& 858993459)
def bcC (x : Nat) : Nat := (x + x / 2 ^ 4) &&& 252645135
def bcD (x : Nat) : Nat := x + x / 2 ^ 8
def bcE (x : Nat) : Nat := x + x / 2 ^ 16
def p1 (x : Nat) : Nat := x - (x / 2 &&& 85)
def p2 (x : Nat) : Nat := (x &&& 51) + (x / 4 &&& 51)
def p3 (x : Nat) : Nat := (x + x / 16) &&& 15
set_option maxRecDepth 100000 in
theorem bc_1 : ∀ x, x < 256 → ∀ e, e < 2 → ((x / 2 + 128 * e) &&& 85) = (x / 2 &&& 85) ∧ (x / 2 &&& 85) ≤ x ∧ p1 x < 256 := by decide +kernel
set_option maxRecDepth 100000 in
theorem bc_2 : ∀ x, x < 256 → ∀ e, e < 4 → ((p1 x / 4 + 64 * e) &&& 51) = (p1 x / 4 &&& 51) ∧ p2 (p1 x) ≤ 68 ∧ p2 (p1 x) % 16 ≤ 4 ∧ p3 (p2 (p1 x)) = cb x 8 := by decide +kernel
set_option maxRecDepth 100000 in
theorem bc_3 : ∀ x, x < 69 → ∀ e, e < 5 → ((x + x / 16 + 16 * e) &&& 15) = (x + x / 16 &&& 15) := by decide +kernel
theorem b3A {x y z : Nat} (hx : x < 256) (hy : y < 256) (hz : z < 256) : bcA (x + 256 * (y + 256 * z)) = p1 x + 256 * (p1 y + 256 * p1 z) := by
  have h1 := bc_1 x hx (y % 2) (by omega)
  have h2 := bc_1 y hy (z % 2) (by omega)
  have h3 := bc_1 z hz 0 (by omega)
  unfold bcA
  rw [show (x + 256 * (y + 256 * z)) / 2 ^ 1 = (x / 2 + 128 * (y % 2)) + 256 * ((y / 2 + 128 * (z % 2)) + 256 * (z / 2 + 128 * 0)) from by omega, show (1431655765 : Nat) = 85 + 256 * (85 + 256 * (85 + 256 * 85)) from rfl,
    and_b (by omega) (by decide), and_b (by omega) (by decide), and_t (by omega) (by decide), h1.1, h2.1, h3.1]
  unfold p1
  omega
theorem b3B {x y z : Nat} (hx : x < 256) (hy : y < 256) (hz : z < 256) : bcB (p1 x + 256 * (p1 y + 256 * p1 z)) = p2 (p1 x) + 256 * (p2 (p1 y) + 256 * p2 (p1 z)) := by
  have k1 := (bc_1 x hx 0 (by omega)).2.2
  have k2 := (bc_1 y hy 0 (by omega)).2.2
  have k3 := (bc_1 z hz 0 (by omega)).2.2
  have h1 := bc_2 x hx (p1 y % 4) (by omega)
  have h2 := bc_2 y hy (p1 z % 4) (by omega)
  have h3 := bc_2 z hz 0 (by omega)
  unfold bcB
  rw [show (p1 x + 256 * (p1 y + 256 * p1 z)) / 2 ^ 2 = (p1 x / 4 + 64 * (p1 y % 4)) + 256 * ((p1 y / 4 + 64 * (p1 z % 4)) + 256 * (p1 z / 4 + 64 * 0)) from by omega, show (858993459 : Nat) = 51 + 256 * (51 + 256 * (51 + 256 * 51)) from rfl,
    and_b (by omega) (by decide), and_b (by omega) (by decide), and_b (by omega) (by decide), and_b (by omega) (by decide), and_t (by omega) (by decide), and_t (by omega) (by decide), h1.1, h2.1, h3.1]
  unfold p2
  omega
theorem b3C {u v w : Nat} (hx : u ≤ 68) (hy : v ≤ 68) (hz : w ≤ 68) (hy4 : v % 16 ≤ 4) (hz4 : w % 16 ≤ 4) : bcC (u + 256 * (v + 256 * w)) = p3 u + 256 * (p3 v + 256 * p3 w) := by
  have h1 := bc_3 u (by omega) (v % 16) (by omega)
  have h2 := bc_3 v (by omega) (w % 16) (by omega)
  have h3 := bc_3 w (by omega) 0 (by omega)
  unfold bcC
  rw [show u + 256 * (v + 256 * w) + (u + 256 * (v + 256 * w)) / 2 ^ 4 = (u + u / 16 + 16 * (v % 16)) + 256 * ((v + v / 16 + 16 * (w % 16)) + 256 * ((w + w / 16 + 16 * 0) + 256 * 0)) from by omega, show (252645135 : Nat) = 15 + 256 * (15 + 256 * (15 + 256 * 15)) from rfl,
    and_b (by omega) (by decide), and_b (by omega) (by decide), and_b (by omega) (by decide), Nat.zero_and, h1, h2, h3]
  unfold p3
  omega
theorem cb_lo {x y : Nat} : ∀ n, n ≤ 8 → cb (x + 256 * y) n = cb x n
  | 0, _ => rfl
  | n + 1, h => by
    rw [cb, cb, cb_lo n (by omega)]
    rcases (by omega : n = 0 ∨ n = 1 ∨ n = 2 ∨ n = 3 ∨ n = 4 ∨ n = 5 ∨ n = 6 ∨ n = 7) with rfl | rfl | rfl | rfl | rfl | rfl | rfl | rfl
    all_goals omega
theorem cb_8 {x y : Nat} (hx : x < 256) : ∀ n, cb (x + 256 * y) (8 + n) = cb x 8 + cb y n
  | 0 => cb_lo 8 (Nat.le_refl 8)
  | n + 1 => by
    have h1 : (x + 256 * y) / 2 ^ (8 + n) = y / 2 ^ n := by rw [Nat.pow_add, ← Nat.div_div_eq_div_mul, show (x + 256 * y) / 2 ^ 8 = y from by omega]
    show cb (x + 256 * y) (8 + n) + (x + 256 * y) / 2 ^ (8 + n) % 2 = cb x 8 + (cb y n + y / 2 ^ n % 2)
    rw [cb_8 hx n, h1, Nat.add_assoc]
set_option maxRecDepth 100000 in
theorem cb_4 : ∀ x, x < 16 → cb x 8 = cb x 4 := by decide +kernel
theorem cb8_le (x : Nat) : cb x 8 ≤ 8 := cb_le x 8
theorem bc_eq {s : Nat} (hs : s < 1048576) : bcE (bcD (bcC (bcB (bcA s)))) &&& 63 = cb s 20 := by
  obtain ⟨x, y, z, hx, hy, hz, rfl⟩ : ∃ x y z, x < 256 ∧ y < 256 ∧ z < 16 ∧ s = x + 256 * (y + 256 * z) := ⟨s % 256, s / 256 % 256, s / 65536, by omega, by omega, by omega, by omega⟩
  have q1 := bc_2 x hx 0 (by omega)
  have q2 := bc_2 y hy 0 (by omega)
  have q3 := bc_2 z (by omega) 0 (by omega)
  have l1 := cb8_le x
  have l2 := cb8_le y
  have l3 := cb8_le z
  rw [b3A hx hy (by omega), b3B hx hy (by omega), b3C q1.2.1 q2.2.1 q3.2.1 q2.2.2.1 q3.2.2.1, q1.2.2.2, q2.2.2.2, q3.2.2.2]
  rw [show (20 : Nat) = 8 + (8 + 4) from rfl, cb_8 hx, cb_8 hy, ← cb_4 z hz]
  unfold bcE bcD
  rw [show (63 : Nat) = 2 ^ 6 - 1 from rfl, Nat.and_two_pow_sub_one_eq_mod]
  generalize cb x 8 = u at *
  generalize cb y 8 = v at *
  generalize cb z 8 = w at *
  clear q1 q2 q3
  have e1 : (u + 256 * (v + 256 * w)) / 2 ^ 8 = v + 256 * w := by omega
  have e2 : (u + 256 * (v + 256 * w) + (v + 256 * w)) / 2 ^ 16 = w := by omega
  rw [e1, e2]
  omega
theorem bcA_le (s : Nat) : (s / 2 ^ 1 &&& 1431655765) ≤ s := Nat.le_trans Nat.and_le_left (Nat.div_le_self _ _)
theorem bcA_l (s : Nat) : bcA s ≤ s := Nat.sub_le _ _
theorem bcB_l {x : Nat} : bcB x ≤ x + x := Nat.add_le_add Nat.and_le_left (Nat.le_trans Nat.and_le_left (Nat.div_le_self _ _))
theorem bcC_l (x : Nat) : bcC x ≤ x + x / 2 ^ 4 := Nat.and_le_left
theorem cb_bm {b : Nat → Nat} (h : ∀ k, b k ≤ 1) {N : Nat} : ∀ {n : Nat}, n ≤ N → cb (bm b N) n = su b n
  | 0, _ => rfl
  | n + 1, hn => by rw [cb, su, cb_bm h (by omega), bm_bit h (by omega)]
theorem pc_su (σ : Sg) (a : Nat) : ∀ n, pcN σ a n = su (pbF σ a) n
  | 0 => rfl
  | n + 1 => by rw [pcN, su, pc_su σ a n]; rfl
theorem and_bm {b c : Nat → Nat} (hb : ∀ k, b k ≤ 1) (hc : ∀ k, c k ≤ 1) (N : Nat) : bm b N &&& bm c N = bm (fun n => if b n = 1 ∧ c n = 1 then 1 else 0) N := by
  refine Nat.eq_of_testBit_eq fun k => ?_
  rw [Nat.testBit_and, bm_tb hb, bm_tb hc, bm_tb (fun n => by split <;> omega)]
  by_cases h1 : k < N <;> by_cases h2 : b k = 1 <;> by_cases h3 : c k = 1 <;> simp [h1, h2, h3]
theorem tg_su (σ : Sg) (a c : Nat) : ∀ n, tgN σ a c n = su (fun n => if pbF σ a n = 1 ∧ pbF σ c n = 1 then 1 else 0) n
  | 0 => rfl
  | n + 1 => by
    rw [tgN, su, tg_su σ a c n]
    congr 1
    unfold pbF
    by_cases h1 : ply σ n a = 0 <;> by_cases h2 : ply σ n c = 0 <;> simp [h1, h2]
set_option maxRecDepth 100000 in
set_option maxHeartbeats 1000000 in
theorem c_J6_bitCount_0f7a4 {l : Launch} {E : Ev} {s : Nat} (hs : s < 1048576) : Cr l E yJ6_bitCount_0f7a4 cJ6_bitCount_0f7a4 1 (some FieldType.int) 0 0 [.int (nI s)] [] (some (.int (nI (cb s 20)))) := by
  have l1 := bcA_l s
  have l2 := bcB_l (x := bcA s)
  have l3 := bcC_l (bcB (bcA s))
  have l0 := bcA_le s
  have l4 : bcD (bcC (bcB (bcA s))) = bcC (bcB (bcA s)) + bcC (bcB (bcA s)) / 2 ^ 8 := rfl
  refine ct_of (by decide +kernel) (Nat.le_of_ble_eq_true rfl) (fun ω C RT => ?_)
  show ω [] [(0, .int (nI s))] [] 0
  refine r_iload_n C (i := 0) 0 dJ6_bitCount_0f7a4_0 rfl rfl ?_
  refine r_iload_n C (i := 0) 0 dJ6_bitCount_0f7a4_1 rfl rfl ?_
  refine r_iconst C dJ6_bitCount_0f7a4_2 ki_1 ?_
  refine r_iushr (v := nI (s / 2 ^ 1)) C dJ6_bitCount_0f7a4_3 (v_ushr (by omega) (by omega)) ?_
  refine r_ldcw (v := nI 1431655765) C dJ6_bitCount_0f7a4_4 w_4_3 ?_
  refine r_iand (v := nI ((s / 2 ^ 1) &&& 1431655765)) C dJ6_bitCount_0f7a4_7 (v_and _ _) ?_
  refine r_isub (v := nI (bcA s)) C dJ6_bitCount_0f7a4_8 (v_sub (by omega)) ?_
  refine r_istore_n C (lv' := [(0, .int (nI (bcA s)))]) dJ6_bitCount_0f7a4_9 rfl (by decide) rfl ?_
  refine r_iload_n C (i := 0) 0 dJ6_bitCount_0f7a4_10 rfl rfl ?_
  refine r_ldcw (v := nI 858993459) C dJ6_bitCount_0f7a4_11 w_4_4 ?_
  refine r_iand (v := nI ((bcA s) &&& 858993459)) C dJ6_bitCount_0f7a4_14 (v_and _ _) ?_
  refine r_iload_n C (i := 0) 0 dJ6_bitCount_0f7a4_15 rfl rfl ?_
  refine r_iconst C dJ6_bitCount_0f7a4_16 ki_2 ?_
  refine r_iushr (v := nI ((bcA s) / 2 ^ 2)) C dJ6_bitCount_0f7a4_17 (v_ushr (by omega) (by omega)) ?_
  refine r_ldcw (v := nI 858993459) C dJ6_bitCount_0f7a4_18 w_4_4 ?_
  refine r_iand (v := nI (((bcA s) / 2 ^ 2) &&& 858993459)) C dJ6_bitCount_0f7a4_21 (v_and _ _) ?_
  refine r_iadd (v := nI (bcB (bcA s))) C dJ6_bitCount_0f7a4_22 (nI_add _ _) ?_
  refine r_istore_n C (lv' := [(0, .int (nI (bcB (bcA s))))]) dJ6_bitCount_0f7a4_23 rfl (by decide) rfl ?_
  refine r_iload_n C (i := 0) 0 dJ6_bitCount_0f7a4_24 rfl rfl ?_
  refine r_iload_n C (i := 0) 0 dJ6_bitCount_0f7a4_25 rfl rfl ?_
  refine r_iconst C dJ6_bitCount_0f7a4_26 ki_4 ?_
  refine r_iushr (v := nI ((bcB (bcA s)) / 2 ^ 4)) C dJ6_bitCount_0f7a4_27 (v_ushr (by omega) (by omega)) ?_
  refine r_iadd (v := nI ((bcB (bcA s)) + ((bcB (bcA s)) / 2 ^ 4))) C dJ6_bitCount_0f7a4_28 (nI_add _ _) ?_
  refine r_ldcw (v := nI 252645135) C dJ6_bitCount_0f7a4_29 w_4_5 ?_
  refine r_iand (v := nI (bcC (bcB (bcA s)))) C dJ6_bitCount_0f7a4_32 (v_and _ _) ?_
  refine r_istore_n C (lv' := [(0, .int (nI (bcC (bcB (bcA s)))))]) dJ6_bitCount_0f7a4_33 rfl (by decide) rfl ?_
  refine r_iload_n C (i := 0) 0 dJ6_bitCount_0f7a4_34 rfl rfl ?_
  refine r_iload_n C (i := 0) 0 dJ6_bitCount_0f7a4_35 rfl rfl ?_
  refine r_bipush C dJ6_bitCount_0f7a4_36 kb_8 ?_
  refine r_iushr (v := nI ((bcC (bcB (bcA s))) / 2 ^ 8)) C dJ6_bitCount_0f7a4_38 (v_ushr (by omega) (by omega)) ?_
  refine r_iadd (v := nI (bcD (bcC (bcB (bcA s))))) C dJ6_bitCount_0f7a4_39 (nI_add _ _) ?_
  refine r_istore_n C (lv' := [(0, .int (nI (bcD (bcC (bcB (bcA s))))))]) dJ6_bitCount_0f7a4_40 rfl (by decide) rfl ?_
  refine r_iload_n C (i := 0) 0 dJ6_bitCount_0f7a4_41 rfl rfl ?_
  refine r_iload_n C (i := 0) 0 dJ6_bitCount_0f7a4_42 rfl rfl ?_
  refine r_bipush C dJ6_bitCount_0f7a4_43 kb_16 ?_
  refine r_iushr (v := nI ((bcD (bcC (bcB (bcA s)))) / 2 ^ 16)) C dJ6_bitCount_0f7a4_45 (v_ushr (by omega) (by omega)) ?_
  refine r_iadd (v := nI (bcE (bcD (bcC (bcB (bcA s)))))) C dJ6_bitCount_0f7a4_46 (nI_add _ _) ?_
  refine r_istore_n C (lv' := [(0, .int (nI (bcE (bcD (bcC (bcB (bcA s)))))))]) dJ6_bitCount_0f7a4_47 rfl (by decide) rfl ?_
  refine r_iload_n C (i := 0) 0 dJ6_bitCount_0f7a4_48 rfl rfl ?_
  refine r_bipush C dJ6_bitCount_0f7a4_49 kb_63 ?_
  refine r_iand (v := nI (cb s 20)) C dJ6_bitCount_0f7a4_51 ((v_and _ _).trans (congrArg nI (bc_eq hs))) ?_
  exact RT.1 _ _ _ _ _ dJ6_bitCount_0f7a4_52 rfl rfl (rd_i rfl) rfl
set_option maxRecDepth 100000 in
set_option maxHeartbeats 1000000 in
theorem c_X5_actor__1 {l : Launch} {E : Ev} {hB b1 b2 b3 b4 b5 b6 b7 b8 b9 b10 : Nat} {c1 : Nat} {f : Nat → Int32} {σ : Sg} (hR : RepC σ f) (hW : Wf σ) {e1 e2 e3 par fre pri sls drk pla tks : Nat} {t1 t2 t3 : Nat → Int32} {a : Nat} (ha : a < sA σ) : Ct l E yX5_actor cX5_actor 3 (some FieldType.int) 7 119 [.ref hB, .int (nI a), .int (nI 1)] [(hB, .inr (5, [.ref b1, .ref b2, .ref b3, .ref b4, .ref b5, .ref b6, .ref b7, .ref b8, .ref b9, .ref b10])), (b1, .inr (4, [.ref c1])), (c1, .inl (eI E, 265, .inl f)), (b7, .inr (0, [.ref e1, .ref e2, .ref e3, .int (nI par), .int (nI fre), .int (nI pri), .int (nI sls), .int (nI drk), .int (nI pla), .int (nI tks)])), (e1, .inl (eI E, 6, .inl t1)), (e2, .inl (eI E, 6, .inl t2)), (e3, .inl (eI E, 6, .inl t3))] (fun v9 w9 => ∃ (par2 fre2 pri2 sls2 drk2 pla2 tks2 : Nat) (ta tb tc : Nat → Int32), v9 = some (.int (nI (pcN σ a 20))) ∧ w9 = [(hB, .inr (5, [.ref b1, .ref b2, .ref b3, .ref b4, .ref b5, .ref b6, .ref b7, .ref b8, .ref b9, .ref b10])), (b1, .inr (4, [.ref c1])), (c1, .inl (eI E, 265, .inl f)), (b7, .inr (0, [.ref e1, .ref e2, .ref e3, .int (nI par2), .int (nI fre2), .int (nI pri2), .int (nI sls2), .int (nI drk2), .int (nI pla2), .int (nI tks2)])), (e1, .inl (eI E, 6, .inl ta)), (e2, .inl (eI E, 6, .inl tb)), (e3, .inl (eI E, 6, .inl tc))]) := by
  have hwP := hW.P
  have hwA := hW.A
  have hwS := hW.S
  refine ct_of (by decide +kernel) (Nat.le_of_ble_eq_true rfl) (fun ω C RT => ?_)
  show ω [(hB, .inr (5, [.ref b1, .ref b2, .ref b3, .ref b4, .ref b5, .ref b6, .ref b7, .ref b8, .ref b9, .ref b10])), (b1, .inr (4, [.ref c1])), (c1, .inl (eI E, 265, .inl f)), (b7, .inr (0, [.ref e1, .ref e2, .ref e3, .int (nI par), .int (nI fre), .int (nI pri), .int (nI sls), .int (nI drk), .int (nI pla), .int (nI tks)])), (e1, .inl (eI E, 6, .inl t1)), (e2, .inl (eI E, 6, .inl t2)), (e3, .inl (eI E, 6, .inl t3))] [(0, .ref hB), (1, .int (nI a)), (2, .int (nI 1))] [] 0
  refine r_aload_n C (i := 0) 0 dX5_actor_0 rfl rfl ?_
  refine r_iload_n C (i := 1) 1 dX5_actor_1 rfl rfl ?_
  refine r_readV (rest := []) C (c_X5_requireActor (hB := hB) (b1 := b1) (b2 := b2) (b3 := b3) (b4 := b4) (b5 := b5) (b6 := b6) (b7 := b7) (b8 := b8) (b9 := b9) (b10 := b10) (c1 := c1) (f := f) (σ := σ) (a := a) (hR := hR) (hW := hW) (hx := (by omega))) lk_X5_requireActor w_1_167 [0, 1, 2] rfl dX5_actor_2 rfl rfl rfl rfl ⟨by decide, by decide⟩ (Nat.le_of_ble_eq_true rfl) (st' := []) rfl ?_
  refine r_iload_n C (i := 2) 2 dX5_actor_5 rfl rfl ?_
  refine r_tabIn (off := 47) C 53 dX5_actor_6 (by decide) (by decide) (by decide) (by decide) ?_
  refine r_aload_n C (i := 0) 0 dX5_actor_53 rfl rfl ?_
  refine r_iload_n C (i := 1) 1 dX5_actor_54 rfl rfl ?_
  refine r_callV (rest := []) C (c_X5_nightsOf (hB := hB) (b1 := b1) (b2 := b2) (b3 := b3) (b4 := b4) (b5 := b5) (b6 := b6) (b7 := b7) (b8 := b8) (b9 := b9) (b10 := b10) (c1 := c1) (f := f) (σ := σ) (e1 := e1) (e2 := e2) (e3 := e3) (par := par) (fre := fre) (pri := pri) (sls := sls) (drk := drk) (pla := pla) (tks := tks) (t1 := t1) (t2 := t2) (t3 := t3) (a := a) (hR := hR) (hW := hW) (ha := (by omega))) lk_X5_nightsOf w_3_235 [0, 1, 2, 3, 4, 5, 6] rfl dX5_actor_55 rfl rfl rfl rfl ⟨by decide, by decide⟩ (Nat.le_of_ble_eq_true rfl) ?_
  rintro _ _ ⟨par_1, fre_2, pri_3, sls_4, drk_5, pla_6, tks_7, ta_8, tb_9, tc_10, rfl, rfl⟩
  show ω [(hB, .inr (5, [.ref b1, .ref b2, .ref b3, .ref b4, .ref b5, .ref b6, .ref b7, .ref b8, .ref b9, .ref b10])), (b1, .inr (4, [.ref c1])), (c1, .inl (eI E, 265, .inl f)), (b7, .inr (0, [.ref e1, .ref e2, .ref e3, .int (nI par_1), .int (nI fre_2), .int (nI pri_3), .int (nI sls_4), .int (nI drk_5), .int (nI pla_6), .int (nI tks_7)])), (e1, .inl (eI E, 6, .inl ta_8)), (e2, .inl (eI E, 6, .inl tb_9)), (e3, .inl (eI E, 6, .inl tc_10))] [(0, .ref hB), (1, .int (nI a)), (2, .int (nI 1))] [.int (nI (bm (pbF σ a) 20))] 58
  have hbl := bm_lt (pbF_le σ a) 20
  refine r_readS (rest := []) C (c_J6_bitCount_0f7a4 (s := bm (pbF σ a) 20) (hs := (by omega))) lk_J6_bitCount_0f7a4 w_4_0 [] dX5_actor_58 rfl rfl rfl ⟨by decide, by decide⟩ (Nat.le_of_ble_eq_true rfl) (st' := [.int (nI (cb (bm (pbF σ a) 20) 20))]) rfl ?_
  exact RT.1 _ _ _ _ _ dX5_actor_61 rfl rfl (⟨_, _, _, _, _, _, _, _, _, _, sv (congrArg nI ((cb_bm (pbF_le σ a) (Nat.le_refl 20)).trans (pc_su σ a 20).symm)), rfl⟩) rfl
set_option maxRecDepth 100000 in
set_option maxHeartbeats 1000000 in
theorem c_X5_together {l : Launch} {E : Ev} {hB b1 b2 b3 b4 b5 b6 b7 b8 b9 b10 : Nat} {c1 : Nat} {f : Nat → Int32} {σ : Sg} (hR : RepC σ f) (hW : Wf σ) {e1 e2 e3 par fre pri sls drk pla tks : Nat} {t1 t2 t3 : Nat → Int32} {a c : Nat} (ha : a < sA σ) (hc : c < sA σ) : Ct l E yX5_together cX5_together 3 (some FieldType.int) 7 118 [.ref hB, .int (nI a), .int (nI c)] [(hB, .inr (5, [.ref b1, .ref b2, .ref b3, .ref b4, .ref b5, .ref b6, .ref b7, .ref b8, .ref b9, .ref b10])), (b1, .inr (4, [.ref c1])), (c1, .inl (eI E, 265, .inl f)), (b7, .inr (0, [.ref e1, .ref e2, .ref e3, .int (nI par), .int (nI fre), .int (nI pri), .int (nI sls), .int (nI drk), .int (nI pla), .int (nI tks)])), (e1, .inl (eI E, 6, .inl t1)), (e2, .inl (eI E, 6, .inl t2)), (e3, .inl (eI E, 6, .inl t3))] (fun v9 w9 => ∃ (par2 fre2 pri2 sls2 drk2 pla2 tks2 : Nat) (ta tb tc : Nat → Int32), v9 = some (.int (nI (tgN σ a c 20))) ∧ w9 = [(hB, .inr (5, [.ref b1, .ref b2, .ref b3, .ref b4, .ref b5, .ref b6, .ref b7, .ref b8, .ref b9, .ref b10])), (b1, .inr (4, [.ref c1])), (c1, .inl (eI E, 265, .inl f)), (b7, .inr (0, [.ref e1, .ref e2, .ref e3, .int (nI par2), .int (nI fre2), .int (nI pri2), .int (nI sls2), .int (nI drk2), .int (nI pla2), .int (nI tks2)])), (e1, .inl (eI E, 6, .inl ta)), (e2, .inl (eI E, 6, .inl tb)), (e3, .inl (eI E, 6, .inl tc))]) := by
  have hwP := hW.P
  have hwA := hW.A
  have hwS := hW.S
  refine ct_of (by decide +kernel) (Nat.le_of_ble_eq_true rfl) (fun ω C RT => ?_)
  show ω [(hB, .inr (5, [.ref b1, .ref b2, .ref b3, .ref b4, .ref b5, .ref b6, .ref b7, .ref b8, .ref b9, .ref b10])), (b1, .inr (4, [.ref c1])), (c1, .inl (eI E, 265, .inl f)), (b7, .inr (0, [.ref e1, .ref e2, .ref e3, .int (nI par), .int (nI fre), .int (nI pri), .int (nI sls), .int (nI drk), .int (nI pla), .int (nI tks)])), (e1, .inl (eI E, 6, .inl t1)), (e2, .inl (eI E, 6, .inl t2)), (e3, .inl (eI E, 6, .inl t3))] [(0, .ref hB), (1, .int (nI a)), (2, .int (nI c))] [] 0
  refine r_aload_n C (i := 0) 0 dX5_together_0 rfl rfl ?_
  refine r_iload_n C (i := 1) 1 dX5_together_1 rfl rfl ?_
  refine r_readV (rest := []) C (c_X5_requireActor (hB := hB) (b1 := b1) (b2 := b2) (b3 := b3) (b4 := b4) (b5 := b5) (b6 := b6) (b7 := b7) (b8 := b8) (b9 := b9) (b10 := b10) (c1 := c1) (f := f) (σ := σ) (a := a) (hR := hR) (hW := hW) (hx := (by omega))) lk_X5_requireActor w_1_167 [0, 1, 2] rfl dX5_together_2 rfl rfl rfl rfl ⟨by decide, by decide⟩ (Nat.le_of_ble_eq_true rfl) (st' := []) rfl ?_
  refine r_aload_n C (i := 0) 0 dX5_together_5 rfl rfl ?_
  refine r_iload_n C (i := 2) 2 dX5_together_6 rfl rfl ?_
  refine r_readV (rest := []) C (c_X5_requireActor (hB := hB) (b1 := b1) (b2 := b2) (b3 := b3) (b4 := b4) (b5 := b5) (b6 := b6) (b7 := b7) (b8 := b8) (b9 := b9) (b10 := b10) (c1 := c1) (f := f) (σ := σ) (a := c) (hR := hR) (hW := hW) (hx := (by omega))) lk_X5_requireActor w_1_167 [0, 1, 2] rfl dX5_together_7 rfl rfl rfl rfl ⟨by decide, by decide⟩ (Nat.le_of_ble_eq_true rfl) (st' := []) rfl ?_
  refine r_aload_n C (i := 0) 0 dX5_together_10 rfl rfl ?_
  refine r_iload_n C (i := 1) 1 dX5_together_11 rfl rfl ?_
  refine r_callV (rest := []) C (c_X5_nightsOf (hB := hB) (b1 := b1) (b2 := b2) (b3 := b3) (b4 := b4) (b5 := b5) (b6 := b6) (b7 := b7) (b8 := b8) (b9 := b9) (b10 := b10) (c1 := c1) (f := f) (σ := σ) (e1 := e1) (e2 := e2) (e3 := e3) (par := par) (fre := fre) (pri := pri) (sls := sls) (drk := drk) (pla := pla) (tks := tks) (t1 := t1) (t2 := t2) (t3 := t3) (a := a) (hR := hR) (hW := hW) (ha := (by omega))) lk_X5_nightsOf w_3_235 [0, 1, 2, 3, 4, 5, 6] rfl dX5_together_12 rfl rfl rfl rfl ⟨by decide, by decide⟩ (Nat.le_of_ble_eq_true rfl) ?_
  rintro _ _ ⟨par_1, fre_2, pri_3, sls_4, drk_5, pla_6, tks_7, ta_8, tb_9, tc_10, rfl, rfl⟩
  show ω [(hB, .inr (5, [.ref b1, .ref b2, .ref b3, .ref b4, .ref b5, .ref b6, .ref b7, .ref b8, .ref b9, .ref b10])), (b1, .inr (4, [.ref c1])), (c1, .inl (eI E, 265, .inl f)), (b7, .inr (0, [.ref e1, .ref e2, .ref e3, .int (nI par_1), .int (nI fre_2), .int (nI pri_3), .int (nI sls_4), .int (nI drk_5), .int (nI pla_6), .int (nI tks_7)])), (e1, .inl (eI E, 6, .inl ta_8)), (e2, .inl (eI E, 6, .inl tb_9)), (e3, .inl (eI E, 6, .inl tc_10))] [(0, .ref hB), (1, .int (nI a)), (2, .int (nI c))] [.int (nI (bm (pbF σ a) 20))] 15
  refine r_aload_n C (i := 0) 0 dX5_together_15 rfl rfl ?_
  refine r_iload_n C (i := 2) 2 dX5_together_16 rfl rfl ?_
  refine r_callV (rest := [.int (nI (bm (pbF σ a) 20))]) C (c_X5_nightsOf (hB := hB) (b1 := b1) (b2 := b2) (b3 := b3) (b4 := b4) (b5 := b5) (b6 := b6) (b7 := b7) (b8 := b8) (b9 := b9) (b10 := b10) (c1 := c1) (f := f) (σ := σ) (e1 := e1) (e2 := e2) (e3 := e3) (par := par_1) (fre := fre_2) (pri := pri_3) (sls := sls_4) (drk := drk_5) (pla := pla_6) (tks := tks_7) (t1 := ta_8) (t2 := tb_9) (t3 := tc_10) (a := c) (hR := hR) (hW := hW) (ha := (by omega))) lk_X5_nightsOf w_3_235 [0, 1, 2, 3, 4, 5, 6] rfl dX5_together_17 rfl rfl rfl rfl ⟨by decide, by decide⟩ (Nat.le_of_ble_eq_true rfl) ?_
  rintro _ _ ⟨par_11, fre_12, pri_13, sls_14, drk_15, pla_16, tks_17, ta_18, tb_19, tc_20, rfl, rfl⟩
  show ω [(hB, .inr (5, [.ref b1, .ref b2, .ref b3, .ref b4, .ref b5, .ref b6, .ref b7, .ref b8, .ref b9, .ref b10])), (b1, .inr (4, [.ref c1])), (c1, .inl (eI E, 265, .inl f)), (b7, .inr (0, [.ref e1, .ref e2, .ref e3, .int (nI par_11), .int (nI fre_12), .int (nI pri_13), .int (nI sls_14), .int (nI drk_15), .int (nI pla_16), .int (nI tks_17)])), (e1, .inl (eI E, 6, .inl ta_18)), (e2, .inl (eI E, 6, .inl tb_19)), (e3, .inl (eI E, 6, .inl tc_20))] [(0, .ref hB), (1, .int (nI a)), (2, .int (nI c))] [.int (nI (bm (pbF σ c) 20)), .int (nI (bm (pbF σ a) 20))] 20
  refine r_iand (v := nI (bm (fun n => if pbF σ a n = 1 ∧ pbF σ c n = 1 then 1 else 0) 20)) C dX5_together_20 ((v_and _ _).trans (congrArg nI (and_bm (pbF_le σ a) (pbF_le σ c) 20))) ?_
  have hbl := bm_lt (b := fun n => if pbF σ a n = 1 ∧ pbF σ c n = 1 then 1 else 0) (fun n => by show (if _ then 1 else 0) ≤ 1; split <;> omega) 20
  refine r_readS (rest := []) C (c_J6_bitCount_0f7a4 (s := bm (fun n => if pbF σ a n = 1 ∧ pbF σ c n = 1 then 1 else 0) 20) (hs := (by omega))) lk_J6_bitCount_0f7a4 w_4_0 [] dX5_together_21 rfl rfl rfl ⟨by decide, by decide⟩ (Nat.le_of_ble_eq_true rfl) (st' := [.int (nI (cb (bm (fun n => if pbF σ a n = 1 ∧ pbF σ c n = 1 then 1 else 0) 20) 20))]) rfl ?_
  exact RT.1 _ _ _ _ _ dX5_together_24 rfl rfl (⟨_, _, _, _, _, _, _, _, _, _, sv (congrArg nI ((cb_bm (fun n => by show (if _ then 1 else 0) ≤ 1; split <;> omega) (Nat.le_refl 20)).trans (tg_su σ a c 20).symm)), rfl⟩) rfl
