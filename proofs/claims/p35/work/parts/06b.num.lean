/-! numbers that may be less than 0 by one; answers of yes and no -/
def mI (x : Nat) : Int32 := nI x - 1
theorem mI_0 : mI 0 = -1 := by decide +kernel
theorem mI_s (a : Nat) : mI (a + 1) = nI a := nI_pred a
theorem mI_toInt {x : Nat} (h : x < 2147483648) : (mI x).toInt = (x : Int) - 1 := by
  cases x with
  | zero => rw [mI_0]; decide
  | succ a => rw [mI_s, nI_toInt (by omega)]; omega
def bP (p : Prop) [Decidable p] : Int32 := if p then nI 1 else nI 0
theorem bP_t {p : Prop} [Decidable p] (h : p) : nI 1 = bP p := by rw [bP, if_pos h]
theorem bP_f {p : Prop} [Decidable p] (h : ¬ p) : nI 0 = bP p := by rw [bP, if_neg h]
theorem bP_c {p q : Prop} [Decidable p] [Decidable q] (h : p ↔ q) : bP p = bP q := by
  by_cases hp : p
  · rw [bP, bP, if_pos hp, if_pos (h.mp hp)]
  · rw [bP, bP, if_neg hp, if_neg (fun z => hp (h.mpr z))]
theorem nI_ne01 : nI 1 ≠ 0 := by decide +kernel
theorem z_eqB {p : Prop} [Decidable p] : bP p = 0 ↔ ¬ p := by
  by_cases hp : p
  · rw [bP, if_pos hp]; exact ⟨fun h => absurd h nI_ne01, fun h => absurd hp h⟩
  · rw [bP, if_neg hp, nI_0]; exact ⟨fun _ => hp, fun _ => rfl⟩
theorem z_neB {p : Prop} [Decidable p] : bP p ≠ 0 ↔ p := by
  by_cases hp : p
  · rw [bP, if_pos hp]; exact ⟨fun _ => hp, fun _ => nI_ne01⟩
  · rw [bP, if_neg hp, nI_0]; exact ⟨fun h => absurd rfl h, fun h => absurd h hp⟩
theorem nar_0 : narrow .boolean (.int (nI 0)) = .int (nI 0) := rfl
theorem nar_1 : narrow .boolean (.int (nI 1)) = .int (nI 1) := rfl
theorem nar_B {p : Prop} [Decidable p] : narrow .boolean (.int (bP p)) = .int (bP p) := by
  by_cases hp : p
  · rw [bP, if_pos hp]; exact nar_1
  · rw [bP, if_neg hp]; exact nar_0
theorem vnar_0 : vp_nar .boolean (nI 0) = nI 0 := rfl
theorem vnar_1 : vp_nar .boolean (nI 1) = nI 1 := rfl
theorem c_ltNN {a b : Nat} (ha : a < 2147483648) (hb : b < 2147483648) : nI a < nI b ↔ a < b := nI_ltI ha hb
theorem c_leNN {a b : Nat} (ha : a < 2147483648) (hb : b < 2147483648) : nI a ≤ nI b ↔ a ≤ b := nI_leI ha hb
theorem c_eqNN {a b : Nat} (ha : a < 2147483648) (hb : b < 2147483648) : nI a = nI b ↔ a = b := nI_eq ha hb
theorem c_neNN {a b : Nat} (ha : a < 2147483648) (hb : b < 2147483648) : nI a ≠ nI b ↔ a ≠ b := not_congr (nI_eq ha hb)
theorem c_ltMM {a b : Nat} (ha : a < 2147483648) (hb : b < 2147483648) : mI a < mI b ↔ a < b := by rw [Int32.lt_iff_toInt_lt, mI_toInt ha, mI_toInt hb]; omega
theorem c_leMM {a b : Nat} (ha : a < 2147483648) (hb : b < 2147483648) : mI a ≤ mI b ↔ a ≤ b := by rw [Int32.le_iff_toInt_le, mI_toInt ha, mI_toInt hb]; omega
theorem c_eqMM {a b : Nat} (ha : a < 2147483648) (hb : b < 2147483648) : mI a = mI b ↔ a = b := by rw [← Int32.toInt_inj, mI_toInt ha, mI_toInt hb]; omega
theorem c_neMM {a b : Nat} (ha : a < 2147483648) (hb : b < 2147483648) : mI a ≠ mI b ↔ a ≠ b := not_congr (c_eqMM ha hb)
theorem c_ltMN {a b : Nat} (ha : a < 2147483648) (hb : b < 2147483648) : mI a < nI b ↔ a < b + 1 := by rw [Int32.lt_iff_toInt_lt, mI_toInt ha, nI_toInt hb]; omega
theorem c_leMN {a b : Nat} (ha : a < 2147483648) (hb : b < 2147483648) : mI a ≤ nI b ↔ a ≤ b + 1 := by rw [Int32.le_iff_toInt_le, mI_toInt ha, nI_toInt hb]; omega
theorem c_eqMN {a b : Nat} (ha : a < 2147483648) (hb : b < 2147483648) : mI a = nI b ↔ a = b + 1 := by rw [← Int32.toInt_inj, mI_toInt ha, nI_toInt hb]; omega
theorem c_neMN {a b : Nat} (ha : a < 2147483648) (hb : b < 2147483648) : mI a ≠ nI b ↔ a ≠ b + 1 := not_congr (c_eqMN ha hb)
theorem c_ltNM {a b : Nat} (ha : a < 2147483648) (hb : b < 2147483648) : nI a < mI b ↔ a + 1 < b := by rw [Int32.lt_iff_toInt_lt, nI_toInt ha, mI_toInt hb]; omega
theorem c_leNM {a b : Nat} (ha : a < 2147483648) (hb : b < 2147483648) : nI a ≤ mI b ↔ a + 1 ≤ b := by rw [Int32.le_iff_toInt_le, nI_toInt ha, mI_toInt hb]; omega
theorem c_eqNM {a b : Nat} (ha : a < 2147483648) (hb : b < 2147483648) : nI a = mI b ↔ a + 1 = b := by rw [← Int32.toInt_inj, nI_toInt ha, mI_toInt hb]; omega
theorem c_neNM {a b : Nat} (ha : a < 2147483648) (hb : b < 2147483648) : nI a ≠ mI b ↔ a + 1 ≠ b := not_congr (c_eqNM ha hb)
theorem z_ltN {a : Nat} (ha : a < 2147483648) : nI a < 0 ↔ a < 0 := by rw [← nI_0]; exact nI_ltI ha (by decide)
theorem z_geN {a : Nat} (ha : a < 2147483648) : 0 ≤ nI a ↔ 0 ≤ a := by rw [← nI_0]; exact nI_leI (by decide) ha
theorem z_eqN {a : Nat} (ha : a < 2147483648) : nI a = 0 ↔ a = 0 := by rw [← nI_0]; exact nI_eq ha (by decide)
theorem z_neN {a : Nat} (ha : a < 2147483648) : nI a ≠ 0 ↔ a ≠ 0 := not_congr (z_eqN ha)
theorem z_gtN {a : Nat} (ha : a < 2147483648) : 0 < nI a ↔ 0 < a := by rw [← nI_0]; exact nI_ltI (by decide) ha
theorem z_leN {a : Nat} (ha : a < 2147483648) : nI a ≤ 0 ↔ a = 0 := by rw [← nI_0, nI_leI ha (by decide)]; omega
theorem z_ltM {a : Nat} (ha : a < 2147483648) : mI a < 0 ↔ a = 0 := by rw [← nI_0, c_ltMN ha (by decide)]; omega
theorem z_geM {a : Nat} (ha : a < 2147483648) : 0 ≤ mI a ↔ a ≠ 0 := by rw [← nI_0, c_leNM (by decide) ha]; omega
theorem z_eqM {a : Nat} (ha : a < 2147483648) : mI a = 0 ↔ a = 1 := by rw [← nI_0, c_eqMN ha (by decide)]
theorem z_neM {a : Nat} (ha : a < 2147483648) : mI a ≠ 0 ↔ a ≠ 1 := not_congr (z_eqM ha)
theorem z_leM {a : Nat} (ha : a < 2147483648) : mI a ≤ 0 ↔ a ≤ 1 := by rw [← nI_0, c_leMN ha (by decide)]
theorem z_gtM {a : Nat} (ha : a < 2147483648) : 0 < mI a ↔ 1 < a := by rw [← nI_0, c_ltNM (by decide) ha]
theorem v_sub {a b : Nat} (h : b ≤ a) : nI a - nI b = nI (a - b) := pk_sub h
theorem v_div {a d : Nat} (ha : a < 2147483648) (h0 : 0 < d) (hd : d < 2147483648) : nI a / nI d = nI (a / d) := pk_div ha h0 hd
theorem v_rem {a d : Nat} (ha : a < 2147483648) (h0 : 0 < d) (hd : d < 2147483648) : nI a - nI a / nI d * nI d = nI (a % d) := pk_rem ha h0 hd
theorem v_nz {d : Nat} (h0 : 0 < d) (hd : d < 2147483648) : ¬ nI d = 0 := nI_ne0 h0 hd
theorem v_inc (a : Nat) : nI a + Int32.ofInt 1 = nI (a + 1) := nI_1 a
theorem v_incM (a : Nat) : mI a + Int32.ofInt 1 = mI (a + 1) := by
  cases a with
  | zero => decide +kernel
  | succ b => rw [mI_s, mI_s]; exact nI_1 b
theorem v_dec {a : Nat} (h : 0 < a) : nI a + Int32.ofInt (-1) = nI (a - 1) := by
  obtain ⟨b, rfl⟩ : ∃ b, a = b + 1 := ⟨a - 1, by omega⟩
  exact pk_m1 b
theorem v_decM (a : Nat) : nI a + Int32.ofInt (-1) = mI a := by
  cases a with
  | zero => decide +kernel
  | succ b => rw [mI_s]; exact pk_m1 b
theorem v_addMN (a b : Nat) : mI a + nI (b + 1) = nI (a + b) := by
  cases a with
  | zero => rw [mI_0, nI_succ, Nat.zero_add, Int32.add_comm (nI b) 1, ← Int32.add_assoc, show (-1 : Int32) + 1 = 0 from by decide, Int32.zero_add]
  | succ c => rw [mI_s, nI_add]; congr 1; omega
theorem v_addM1 (a : Nat) : mI a + nI 1 = nI a := v_addMN a 0
theorem v_shl : ∀ {n : Nat}, n < 31 → nI 1 <<< (nI n &&& 31) = nI (2 ^ n) := by
  intro n h
  have h1 : ∀ n, n < 31 → nI 1 <<< (nI n &&& 31) = nI (2 ^ n) := by decide +kernel
  exact h1 n h
theorem v_ushr {a k : Nat} (ha : a < 4294967296) (hk : k < 32) : ((nI a).toUInt32 >>> ((nI k).toUInt32 &&& Int32.toUInt32 31)).toInt32 = nI (a / 2 ^ k) :=
  pk_ushrN ha (nI k) k ((by decide +kernel : ∀ l, l < 32 → (((nI l).toUInt32 &&& Int32.toUInt32 31).toBitVec % 32).toNat = l) k hk)
theorem v_shr {a k : Nat} (ha : a < 2147483648) (hk : k < 32) : nI a >>> (nI k &&& 31) = nI (a / 2 ^ k) :=
  pk_shrN ha (nI k &&& 31) k ((by decide +kernel : ∀ l, l < 32 → ((nI l &&& 31).toBitVec.smod 32).toNat = l) k hk)
theorem v_and1 (a : Nat) : nI a &&& nI 1 = nI (a % 2) := fa_mask a 1
theorem v_or (a b : Nat) : nI a ||| nI b = nI (a ||| b) := fa_or a b
theorem v_and (a b : Nat) : nI a &&& nI b = nI (a &&& b) := fa_and a b
theorem v_andnot (a b : Nat) : nI a &&& (nI b ^^^ mI 0) = nI (a ^^^ (a &&& b)) := by
  have e : nI a &&& (nI b ^^^ mI 0) = nI a ^^^ (nI a &&& nI b) := by
    apply Int32.toBitVec_inj.mp
    have h0 : (mI 0).toBitVec = BitVec.allOnes 32 := by decide +kernel
    simp only [Int32.toBitVec_and, Int32.toBitVec_xor, h0]
    ext i hi
    simp only [BitVec.getElem_and, BitVec.getElem_xor, BitVec.getElem_allOnes]
    cases (nI a).toBitVec[i] <;> cases (nI b).toBitVec[i] <;> rfl
  rw [e, v_and, fb_xorI]
theorem v_i2l {a : Nat} (h : a < 2147483648) : (nI a).toInt64 = lN a := nI_l h
theorem v_i2lM {a : Nat} (h : a < 2147483648) : (mI (a + 1)).toInt64 = lN a := by rw [mI_s]; exact nI_l h
theorem v_l2i (a : Nat) : (lN a).toInt32 = nI a := lN_i a
theorem rd_i {v v' : Int32} {ws : va_W} (h : v = v') : some (Value.int v) = some (Value.int v') ∧ ws = ws := ⟨by rw [h], rfl⟩
theorem rd_l {v v' : Int64} {ws : va_W} (h : v = v') : some (Value.long v) = some (Value.long v') ∧ ws = ws := ⟨by rw [h], rfl⟩
theorem rd_a {v v' : Nat} {ws : va_W} (h : v = v') : some (Value.ref v) = some (Value.ref v') ∧ ws = ws := ⟨by rw [h], rfl⟩
theorem rd_v {ws : va_W} : (none : Option Value) = none ∧ ws = ws := ⟨rfl, rfl⟩
/-- what lies on the stack or in the locals, told otherwise -/
theorem r_st {ω : Om} {ws : va_W} {lv : List (Nat × Value)} {st st' : List Value} {pc : Nat} (h : st = st') (k : ω ws lv st' pc) : ω ws lv st pc := by rw [h]; exact k
theorem r_lo {ω : Om} {ws : va_W} {lv lv' : List (Nat × Value)} {st : List Value} {pc : Nat} (h : lv = lv') (k : ω ws lv' st pc) : ω ws lv st pc := by rw [h]; exact k
theorem r_ws {ω : Om} {ws ws' : va_W} {lv : List (Nat × Value)} {st : List Value} {pc : Nat} (h : ws = ws') (k : ω ws' lv st pc) : ω ws lv st pc := by rw [h]; exact k

theorem kb_6 : (Int8.ofInt (6)).toInt32 = nI 6 := by decide +kernel
theorem kb_7 : (Int8.ofInt (7)).toInt32 = nI 7 := by decide +kernel
theorem kb_8 : (Int8.ofInt (8)).toInt32 = nI 8 := by decide +kernel
theorem kb_9 : (Int8.ofInt (9)).toInt32 = nI 9 := by decide +kernel
theorem kb_10 : (Int8.ofInt (10)).toInt32 = nI 10 := by decide +kernel
theorem kb_11 : (Int8.ofInt (11)).toInt32 = nI 11 := by decide +kernel
theorem kb_12 : (Int8.ofInt (12)).toInt32 = nI 12 := by decide +kernel
theorem kb_13 : (Int8.ofInt (13)).toInt32 = nI 13 := by decide +kernel
theorem kb_14 : (Int8.ofInt (14)).toInt32 = nI 14 := by decide +kernel
theorem kb_15 : (Int8.ofInt (15)).toInt32 = nI 15 := by decide +kernel
theorem kb_16 : (Int8.ofInt (16)).toInt32 = nI 16 := by decide +kernel
theorem kb_17 : (Int8.ofInt (17)).toInt32 = nI 17 := by decide +kernel
theorem kb_18 : (Int8.ofInt (18)).toInt32 = nI 18 := by decide +kernel
theorem kb_19 : (Int8.ofInt (19)).toInt32 = nI 19 := by decide +kernel
theorem kb_20 : (Int8.ofInt (20)).toInt32 = nI 20 := by decide +kernel
theorem kb_21 : (Int8.ofInt (21)).toInt32 = nI 21 := by decide +kernel
theorem kb_22 : (Int8.ofInt (22)).toInt32 = nI 22 := by decide +kernel
theorem kb_23 : (Int8.ofInt (23)).toInt32 = nI 23 := by decide +kernel
theorem kb_24 : (Int8.ofInt (24)).toInt32 = nI 24 := by decide +kernel
theorem kb_30 : (Int8.ofInt (30)).toInt32 = nI 30 := by decide +kernel
theorem kb_32 : (Int8.ofInt (32)).toInt32 = nI 32 := by decide +kernel
theorem kb_33 : (Int8.ofInt (33)).toInt32 = nI 33 := by decide +kernel
theorem kb_35 : (Int8.ofInt (35)).toInt32 = nI 35 := by decide +kernel
theorem kb_41 : (Int8.ofInt (41)).toInt32 = nI 41 := by decide +kernel
theorem kb_48 : (Int8.ofInt (48)).toInt32 = nI 48 := by decide +kernel
theorem kb_50 : (Int8.ofInt (50)).toInt32 = nI 50 := by decide +kernel
theorem kb_51 : (Int8.ofInt (51)).toInt32 = nI 51 := by decide +kernel
theorem kb_57 : (Int8.ofInt (57)).toInt32 = nI 57 := by decide +kernel
theorem kb_60 : (Int8.ofInt (60)).toInt32 = nI 60 := by decide +kernel
theorem kb_61 : (Int8.ofInt (61)).toInt32 = nI 61 := by decide +kernel
theorem kb_63 : (Int8.ofInt (63)).toInt32 = nI 63 := by decide +kernel
theorem kb_64 : (Int8.ofInt (64)).toInt32 = nI 64 := by decide +kernel
theorem kb_65 : (Int8.ofInt (65)).toInt32 = nI 65 := by decide +kernel
theorem kb_66 : (Int8.ofInt (66)).toInt32 = nI 66 := by decide +kernel
theorem kb_70 : (Int8.ofInt (70)).toInt32 = nI 70 := by decide +kernel
theorem kb_96 : (Int8.ofInt (96)).toInt32 = nI 96 := by decide +kernel
theorem kb_99 : (Int8.ofInt (99)).toInt32 = nI 99 := by decide +kernel
theorem kb_100 : (Int8.ofInt (100)).toInt32 = nI 100 := by decide +kernel
theorem kb_104 : (Int8.ofInt (104)).toInt32 = nI 104 := by decide +kernel
theorem kb_112 : (Int8.ofInt (112)).toInt32 = nI 112 := by decide +kernel
theorem kb_120 : (Int8.ofInt (120)).toInt32 = nI 120 := by decide +kernel
theorem ki_m1 : Int32.ofInt (-1) = mI 0 := by decide +kernel
theorem ki_0 : Int32.ofInt (0) = nI 0 := by decide +kernel
theorem ki_1 : Int32.ofInt (1) = nI 1 := by decide +kernel
theorem ki_2 : Int32.ofInt (2) = nI 2 := by decide +kernel
theorem ki_3 : Int32.ofInt (3) = nI 3 := by decide +kernel
theorem ki_4 : Int32.ofInt (4) = nI 4 := by decide +kernel
theorem ki_5 : Int32.ofInt (5) = nI 5 := by decide +kernel
theorem ks_185 : (Int16.ofInt (185)).toInt32 = nI 185 := by decide +kernel
theorem ks_255 : (Int16.ofInt (255)).toInt32 = nI 255 := by decide +kernel
theorem ks_256 : (Int16.ofInt (256)).toInt32 = nI 256 := by decide +kernel
theorem ks_265 : (Int16.ofInt (265)).toInt32 = nI 265 := by decide +kernel
theorem ks_512 : (Int16.ofInt (512)).toInt32 = nI 512 := by decide +kernel
theorem ks_530 : (Int16.ofInt (530)).toInt32 = nI 530 := by decide +kernel
theorem ks_960 : (Int16.ofInt (960)).toInt32 = nI 960 := by decide +kernel
theorem ks_1000 : (Int16.ofInt (1000)).toInt32 = nI 1000 := by decide +kernel
theorem ks_3710 : (Int16.ofInt (3710)).toInt32 = nI 3710 := by decide +kernel
theorem ks_4096 : (Int16.ofInt (4096)).toInt32 = nI 4096 := by decide +kernel
theorem ks_5000 : (Int16.ofInt (5000)).toInt32 = nI 5000 := by decide +kernel
theorem ks_10000 : (Int16.ofInt (10000)).toInt32 = nI 10000 := by decide +kernel
theorem ks_11117 : (Int16.ofInt (11117)).toInt32 = nI 11117 := by decide +kernel
theorem ks_19200 : (Int16.ofInt (19200)).toInt32 = nI 19200 := by decide +kernel
theorem lk_J0_charAt_5068e : LkV yJ0_charAt_5068e cJ0_charAt_5068e 2 (some FieldType.char) 1 := ⟨w_2_145, w_2_146, w_2_147, w_1_12, by decide +kernel⟩
theorem lk_J0_checkIndex_df160 : LkS yJ0_checkIndex_df160 cJ0_checkIndex_df160 2 none 2 := ⟨w_2_156, w_2_157, w_1_12, by decide +kernel⟩
theorem lk_J0_coder_7d493 : LkV yJ0_coder_7d493 cJ0_coder_7d493 1 (some FieldType.byte) 0 := ⟨w_2_139, w_2_140, w_2_141, w_1_12, by decide +kernel⟩
theorem lk_J0_isEmpty_aae02 : LkV yJ0_isEmpty_aae02 cJ0_isEmpty_aae02 1 (some FieldType.boolean) 0 := ⟨w_2_127, w_2_128, w_2_129, w_1_12, by decide +kernel⟩
theorem lk_J0_isLatin1_aae02 : LkV yJ0_isLatin1_aae02 cJ0_isLatin1_aae02 1 (some FieldType.boolean) 0 := ⟨w_2_149, w_2_150, w_2_151, w_1_12, by decide +kernel⟩
theorem lk_J0_length_8abf5 : LkV yJ0_length_8abf5 cJ0_length_8abf5 1 (some FieldType.int) 0 := ⟨w_2_135, w_2_136, w_2_137, w_1_12, by decide +kernel⟩
theorem lk_J1_charAt_3b067 : LkS yJ1_charAt_3b067 cJ1_charAt_3b067 2 (some FieldType.char) 2 := ⟨w_2_153, w_2_154, w_1_13, by decide +kernel⟩
theorem lk_J2_charAt_3b067 : LkS yJ2_charAt_3b067 cJ2_charAt_3b067 2 (some FieldType.char) 2 := ⟨w_2_164, w_2_165, w_1_15, by decide +kernel⟩
theorem lk_J2_checkIndex_2214a : LkS yJ2_checkIndex_2214a cJ2_checkIndex_2214a 2 none 2 := ⟨w_2_167, w_2_168, w_1_15, by decide +kernel⟩
theorem lk_J2_getChar_3b067 : LkS yJ2_getChar_3b067 cJ2_getChar_3b067 2 (some FieldType.char) 2 := ⟨w_2_174, w_2_175, w_1_15, by decide +kernel⟩
theorem lk_J2_length_9d52b : LkS yJ2_length_9d52b cJ2_length_9d52b 1 (some FieldType.int) 1 := ⟨w_2_170, w_2_171, w_1_15, by decide +kernel⟩
theorem lk_J3_checkIndex_8e157 : LkS yJ3_checkIndex_8e157 cJ3_checkIndex_8e157 3 (some FieldType.int) 3 := ⟨w_2_161, w_2_162, w_1_14, by decide +kernel⟩
theorem lk_J6_bitCount_0f7a4 : LkS yJ6_bitCount_0f7a4 cJ6_bitCount_0f7a4 1 (some FieldType.int) 1 := ⟨w_4_1, w_4_2, w_1_18, by decide +kernel⟩
theorem lk_J9_max_7cf53 : LkS yJ9_max_7cf53 cJ9_max_7cf53 2 (some FieldType.int) 2 := ⟨w_4_181, w_4_182, w_1_16, by decide +kernel⟩
theorem lk_J9_min_7cf53 : LkS yJ9_min_7cf53 cJ9_min_7cf53 2 (some FieldType.int) 2 := ⟨w_3_58, w_3_59, w_1_16, by decide +kernel⟩
theorem lk_L_act : LkS yL_act cL_act 7 (some FieldType.int) 2 := ⟨w_5_60, w_5_61, w_1_0, by decide +kernel⟩
theorem lk_L_alike : LkS yL_alike cL_alike 7 (some FieldType.boolean) 3 := ⟨w_5_63, w_5_64, w_1_0, by decide +kernel⟩
theorem lk_L_call : LkS yL_call cL_call 5 (some FieldType.int) 5 := ⟨w_2_42, w_2_43, w_1_0, by decide +kernel⟩
theorem lk_L_cell : LkS yL_cell cL_cell 2 (some FieldType.int) 2 := ⟨w_4_232, w_4_233, w_1_0, by decide +kernel⟩
theorem lk_L_holds : LkS yL_holds cL_holds 18 (some FieldType.boolean) 2 := ⟨w_5_54, w_5_55, w_1_0, by decide +kernel⟩
theorem lk_L_night : LkS yL_night cL_night 14 (some FieldType.boolean) 2 := ⟨w_5_57, w_5_58, w_1_0, by decide +kernel⟩
theorem lk_L_refuses : LkS yL_refuses cL_refuses 6 (some FieldType.boolean) 2 := ⟨w_5_0, w_5_1, w_1_0, by decide +kernel⟩
theorem lk_L_study : LkS yL_study cL_study 11 (some FieldType.boolean) 4 := ⟨w_5_70, w_5_71, w_1_0, by decide +kernel⟩
theorem lk_L_thrown : LkS yL_thrown cL_thrown 1 (some FieldType.boolean) 1 := ⟨w_4_237, w_4_238, w_1_0, by decide +kernel⟩
theorem lk_X0_bestSlip : LkV yX0_bestSlip cX0_bestSlip 5 (some FieldType.int) 2 := ⟨w_3_87, w_s_6, w_3_88, w_1_5, by decide +kernel⟩
theorem lk_X0_bestUnderstudyOf : LkV yX0_bestUnderstudyOf cX0_bestUnderstudyOf 5 (some FieldType.int) 2 := ⟨w_3_113, w_s_9, w_3_114, w_1_5, by decide +kernel⟩
theorem lk_X0_billAsNumber : LkV yX0_billAsNumber cX0_billAsNumber 3 (some FieldType.int) 0 := ⟨w_3_148, w_3_149, w_3_150, w_1_5, by decide +kernel⟩
theorem lk_X0_choose : LkV yX0_choose cX0_choose 6 none 3 := ⟨w_3_83, w_s_5, w_3_84, w_1_5, by decide +kernel⟩
theorem lk_X0_isDark : LkV yX0_isDark cX0_isDark 1 (some FieldType.boolean) 0 := ⟨w_3_126, w_3_127, w_3_128, w_1_5, by decide +kernel⟩
theorem lk_X0_isFree : LkV yX0_isFree cX0_isFree 2 (some FieldType.boolean) 1 := ⟨w_3_100, w_s_7, w_3_101, w_1_5, by decide +kernel⟩
theorem lk_X0_player : LkV yX0_player cX0_player 2 (some FieldType.int) 1 := ⟨w_3_152, w_3_153, w_3_154, w_1_5, by decide +kernel⟩
theorem lk_X0_players : LkV yX0_players cX0_players 1 (some FieldType.int) 0 := ⟨w_3_219, w_3_220, w_3_221, w_1_5, by decide +kernel⟩
theorem lk_X0_reason : LkV yX0_reason cX0_reason 2 (some FieldType.int) 1 := ⟨w_3_200, w_3_201, w_3_202, w_1_5, by decide +kernel⟩
theorem lk_X0_slipOf : LkV yX0_slipOf cX0_slipOf 2 (some FieldType.int) 1 := ⟨w_3_172, w_3_173, w_3_174, w_1_5, by decide +kernel⟩
theorem lk_X0_slipsPlayed : LkV yX0_slipsPlayed cX0_slipsPlayed 3 (some FieldType.int) 0 := ⟨w_3_168, w_3_169, w_3_170, w_1_5, by decide +kernel⟩
theorem lk_X0_take : LkV yX0_take cX0_take 5 none 4 := ⟨w_3_108, w_s_8, w_3_109, w_1_5, by decide +kernel⟩
theorem lk_X0_takenFor : LkV yX0_takenFor cX0_takenFor 2 (some FieldType.int) 1 := ⟨w_3_156, w_3_157, w_3_158, w_1_5, by decide +kernel⟩
theorem lk_X0_takings : LkV yX0_takings cX0_takings 1 (some FieldType.int) 0 := ⟨w_3_130, w_3_131, w_3_132, w_1_5, by decide +kernel⟩
theorem lk_X0_workOut : LkV yX0_workOut cX0_workOut 5 none 2 := ⟨w_3_53, w_3_54, w_3_55, w_1_5, by decide +kernel⟩
theorem lk_X1_forget : LkV yX1_forget cX1_forget 1 none 0 := ⟨w_2_193, w_2_194, w_2_195, w_1_3, by decide +kernel⟩
theorem lk_X1_remember : LkV yX1_remember cX1_remember 2 none 1 := ⟨w_2_14, w_2_15, w_2_16, w_1_3, by decide +kernel⟩
theorem lk_X1_size : LkV yX1_size cX1_size 1 (some FieldType.int) 0 := ⟨w_4_142, w_4_143, w_4_144, w_1_3, by decide +kernel⟩
theorem lk_X1_takeBack : LkV yX1_takeBack cX1_takeBack 2 none 1 := ⟨w_4_147, w_4_148, w_4_149, w_1_3, by decide +kernel⟩
theorem lk_X2_add : LkV yX2_add cX2_add 2 none 1 := ⟨w_2_90, w_2_91, w_2_92, w_1_4, by decide +kernel⟩
theorem lk_X2_digit : LkV yX2_digit cX2_digit 2 (some FieldType.int) 1 := ⟨w_2_202, w_2_203, w_2_204, w_1_4, by decide +kernel⟩
theorem lk_X2_digitsBehind : LkV yX2_digitsBehind cX2_digitsBehind 2 (some FieldType.int) 1 := ⟨w_2_187, w_2_188, w_2_189, w_1_4, by decide +kernel⟩
theorem lk_X2_faultBehind : LkV yX2_faultBehind cX2_faultBehind 5 (some FieldType.int) 1 := ⟨w_2_132, w_s_2, w_2_133, w_1_4, by decide +kernel⟩
theorem lk_X2_firstFault : LkV yX2_firstFault cX2_firstFault 3 (some FieldType.int) 0 := ⟨w_2_107, w_2_108, w_2_109, w_1_4, by decide +kernel⟩
theorem lk_X2_highestDigits : LkS yX2_highestDigits cX2_highestDigits 1 (some (FieldType.object "java/lang/String")) 1 := ⟨w_2_118, w_2_119, w_1_4, by decide +kernel⟩
theorem lk_X2_isCommand : LkS yX2_isCommand cX2_isCommand 1 (some FieldType.boolean) 1 := ⟨w_2_115, w_2_116, w_1_4, by decide +kernel⟩
theorem lk_X2_isDigitUpTo : LkV yX2_isDigitUpTo cX2_isDigitUpTo 4 (some FieldType.boolean) 2 := ⟨w_2_184, w_s_3, w_2_185, w_1_4, by decide +kernel⟩
theorem lk_X2_isFull : LkV yX2_isFull cX2_isFull 1 (some FieldType.boolean) 0 := ⟨w_2_70, w_2_71, w_2_72, w_1_4, by decide +kernel⟩
theorem lk_X2_pair : LkV yX2_pair cX2_pair 2 (some FieldType.int) 1 := ⟨w_2_235, w_2_236, w_2_237, w_1_4, by decide +kernel⟩
theorem lk_X2_signAt : LkV yX2_signAt cX2_signAt 2 (some FieldType.int) 1 := ⟨w_2_111, w_2_112, w_2_113, w_1_4, by decide +kernel⟩
theorem lk_X2_size : LkV yX2_size cX2_size 1 (some FieldType.int) 0 := ⟨w_2_94, w_2_95, w_2_96, w_1_4, by decide +kernel⟩
theorem lk_X3_dark : LkV yX3_dark cX3_dark 1 (some FieldType.int) 0 := ⟨w_3_134, w_3_135, w_3_136, w_1_6, by decide +kernel⟩
theorem lk_X3_isBetter : LkV yX3_isBetter cX3_isBetter 3 (some FieldType.boolean) 2 := ⟨w_4_207, w_4_208, w_4_209, w_1_6, by decide +kernel⟩
theorem lk_X3_takings : LkV yX3_takings cX3_takings 1 (some FieldType.int) 0 := ⟨w_3_138, w_3_139, w_3_140, w_1_6, by decide +kernel⟩
theorem lk_X3_tally : LkV yX3_tally cX3_tally 3 none 1 := ⟨w_3_49, w_3_50, w_3_51, w_1_6, by decide +kernel⟩
theorem lk_X4_actors : LkV yX4_actors cX4_actors 1 (some FieldType.int) 0 := ⟨w_3_41, w_3_42, w_3_43, w_1_2, by decide +kernel⟩
theorem lk_X4_addSlip : LkV yX4_addSlip cX4_addSlip 7 (some FieldType.boolean) 4 := ⟨w_3_21, w_3_22, w_3_23, w_1_2, by decide +kernel⟩
theorem lk_X4_addUnderstudy : LkV yX4_addUnderstudy cX4_addUnderstudy 4 (some FieldType.boolean) 2 := ⟨w_3_1, w_3_2, w_3_3, w_1_2, by decide +kernel⟩
theorem lk_X4_canAddSlip : LkV yX4_canAddSlip cX4_canAddSlip 5 (some FieldType.boolean) 4 := ⟨w_3_25, w_3_26, w_3_27, w_1_2, by decide +kernel⟩
theorem lk_X4_canAddUnderstudy : LkV yX4_canAddUnderstudy cX4_canAddUnderstudy 3 (some FieldType.boolean) 2 := ⟨w_3_5, w_3_6, w_3_7, w_1_2, by decide +kernel⟩
theorem lk_X4_canHire : LkV yX4_canHire cX4_canHire 2 (some FieldType.boolean) 1 := ⟨w_2_210, w_2_211, w_2_212, w_1_2, by decide +kernel⟩
theorem lk_X4_canOpenPart : LkV yX4_canOpenPart cX4_canOpenPart 1 (some FieldType.boolean) 0 := ⟨w_2_219, w_2_220, w_2_221, w_1_2, by decide +kernel⟩
theorem lk_X4_canRecast : LkV yX4_canRecast cX4_canRecast 4 (some FieldType.boolean) 3 := ⟨w_2_227, w_2_228, w_2_229, w_1_2, by decide +kernel⟩
theorem lk_X4_changeIllness : LkV yX4_changeIllness cX4_changeIllness 4 (some FieldType.boolean) 3 := ⟨w_2_28, w_2_29, w_2_30, w_1_2, by decide +kernel⟩
theorem lk_X4_clear : LkV yX4_clear cX4_clear 2 none 0 := ⟨w_1_35, w_1_36, w_1_37, w_1_2, by decide +kernel⟩
theorem lk_X4_copyOf : LkV yX4_copyOf cX4_copyOf 2 none 1 := ⟨w_4_192, w_4_193, w_4_194, w_1_2, by decide +kernel⟩
theorem lk_X4_dropSlip : LkV yX4_dropSlip cX4_dropSlip 3 (some FieldType.boolean) 1 := ⟨w_4_118, w_4_119, w_4_120, w_1_2, by decide +kernel⟩
theorem lk_X4_dropUnderstudy : LkV yX4_dropUnderstudy cX4_dropUnderstudy 6 (some FieldType.boolean) 2 := ⟨w_4_107, w_4_108, w_4_109, w_1_2, by decide +kernel⟩
theorem lk_X4_fame : LkV yX4_fame cX4_fame 2 (some FieldType.int) 1 := ⟨w_3_118, w_3_119, w_3_120, w_1_2, by decide +kernel⟩
theorem lk_X4_fetchFrom : LkV yX4_fetchFrom cX4_fetchFrom 3 none 2 := ⟨w_4_151, w_4_152, w_4_153, w_1_2, by decide +kernel⟩
theorem lk_X4_hasActor : LkV yX4_hasActor cX4_hasActor 2 (some FieldType.boolean) 1 := ⟨w_1_172, w_1_173, w_1_174, w_1_2, by decide +kernel⟩
theorem lk_X4_hasPart : LkV yX4_hasPart cX4_hasPart 2 (some FieldType.boolean) 1 := ⟨w_2_231, w_2_232, w_2_233, w_1_2, by decide +kernel⟩
theorem lk_X4_hasSlip : LkV yX4_hasSlip cX4_hasSlip 2 (some FieldType.boolean) 1 := ⟨w_4_38, w_4_39, w_4_40, w_1_2, by decide +kernel⟩
theorem lk_X4_hire : LkV yX4_hire cX4_hire 3 (some FieldType.boolean) 1 := ⟨w_2_206, w_2_207, w_2_208, w_1_2, by decide +kernel⟩
theorem lk_X4_illNights : LkV yX4_illNights cX4_illNights 4 (some FieldType.int) 1 := ⟨w_2_34, w_2_35, w_2_36, w_1_2, by decide +kernel⟩
theorem lk_X4_illOn : LkV yX4_illOn cX4_illOn 2 (some FieldType.int) 1 := ⟨w_3_62, w_3_63, w_3_64, w_1_2, by decide +kernel⟩
theorem lk_X4_isPlace : LkS yX4_isPlace cX4_isPlace 2 (some FieldType.boolean) 2 := ⟨w_2_22, w_2_23, w_1_2, by decide +kernel⟩
theorem lk_X4_openPart : LkV yX4_openPart cX4_openPart 2 (some FieldType.boolean) 0 := ⟨w_2_215, w_2_216, w_2_217, w_1_2, by decide +kernel⟩
theorem lk_X4_option : LkV yX4_option cX4_option 2 (some FieldType.int) 1 := ⟨w_3_122, w_3_123, w_3_124, w_1_2, by decide +kernel⟩
theorem lk_X4_parts : LkV yX4_parts cX4_parts 1 (some FieldType.int) 0 := ⟨w_3_37, w_3_38, w_3_39, w_1_2, by decide +kernel⟩
theorem lk_X4_principal : LkV yX4_principal cX4_principal 3 (some FieldType.int) 2 := ⟨w_3_70, w_3_71, w_3_72, w_1_2, by decide +kernel⟩
theorem lk_X4_principalsOn : LkV yX4_principalsOn cX4_principalsOn 5 (some FieldType.int) 1 := ⟨w_3_66, w_3_67, w_3_68, w_1_2, by decide +kernel⟩
theorem lk_X4_rankOf : LkV yX4_rankOf cX4_rankOf 4 (some FieldType.int) 2 := ⟨w_3_9, w_3_10, w_3_11, w_1_2, by decide +kernel⟩
theorem lk_X4_recast : LkV yX4_recast cX4_recast 5 (some FieldType.boolean) 3 := ⟨w_2_223, w_2_224, w_2_225, w_1_2, by decide +kernel⟩
theorem lk_X4_setOption : LkV yX4_setOption cX4_setOption 3 none 2 := ⟨w_4_131, w_4_132, w_4_133, w_1_2, by decide +kernel⟩
theorem lk_X4_slipActor : LkV yX4_slipActor cX4_slipActor 2 (some FieldType.int) 1 := ⟨w_3_95, w_3_96, w_3_97, w_1_2, by decide +kernel⟩
theorem lk_X4_slipHour : LkV yX4_slipHour cX4_slipHour 2 (some FieldType.int) 1 := ⟨w_3_103, w_3_104, w_3_105, w_1_2, by decide +kernel⟩
theorem lk_X4_slipNight : LkV yX4_slipNight cX4_slipNight 2 (some FieldType.int) 1 := ⟨w_3_78, w_3_79, w_3_80, w_1_2, by decide +kernel⟩
theorem lk_X4_slipPart : LkV yX4_slipPart cX4_slipPart 2 (some FieldType.int) 1 := ⟨w_3_91, w_3_92, w_3_93, w_1_2, by decide +kernel⟩
theorem lk_X4_slips : LkV yX4_slips cX4_slips 1 (some FieldType.int) 0 := ⟨w_3_45, w_3_46, w_3_47, w_1_2, by decide +kernel⟩
theorem lk_X4_slipsFor : LkV yX4_slipsFor cX4_slipsFor 5 (some FieldType.int) 2 := ⟨w_3_204, w_3_205, w_3_206, w_1_2, by decide +kernel⟩
theorem lk_X4_slipsOn : LkV yX4_slipsOn cX4_slipsOn 4 (some FieldType.int) 1 := ⟨w_3_74, w_3_75, w_3_76, w_1_2, by decide +kernel⟩
theorem lk_X4_storeIn : LkV yX4_storeIn cX4_storeIn 3 none 2 := ⟨w_2_18, w_2_19, w_2_20, w_1_2, by decide +kernel⟩
theorem lk_X4_understudies : LkV yX4_understudies cX4_understudies 2 (some FieldType.int) 1 := ⟨w_3_13, w_3_14, w_3_15, w_1_2, by decide +kernel⟩
theorem lk_X4_understudyAt : LkV yX4_understudyAt cX4_understudyAt 3 (some FieldType.int) 2 := ⟨w_3_17, w_3_18, w_3_19, w_1_2, by decide +kernel⟩
theorem lk_X5_about : LkV yX5_about cX5_about 2 (some FieldType.int) 1 := ⟨w_3_33, w_3_34, w_3_35, w_1_1, by decide +kernel⟩
theorem lk_X5_actor : LkV yX5_actor cX5_actor 3 (some FieldType.int) 2 := ⟨w_3_231, w_3_232, w_3_233, w_1_1, by decide +kernel⟩
theorem lk_X5_addActor : LkV yX5_addActor cX5_addActor 3 (some FieldType.int) 1 := ⟨w_4_63, w_4_64, w_4_65, w_1_1, by decide +kernel⟩
theorem lk_X5_addPart : LkV yX5_addPart cX5_addPart 2 (some FieldType.int) 0 := ⟨w_4_73, w_4_74, w_4_75, w_1_1, by decide +kernel⟩
theorem lk_X5_append : LkV yX5_append cX5_append 2 (some FieldType.int) 1 := ⟨w_2_50, w_2_51, w_2_52, w_1_1, by decide +kernel⟩
theorem lk_X5_bestUnderstudy : LkV yX5_bestUnderstudy cX5_bestUnderstudy 6 (some FieldType.int) 1 := ⟨w_4_203, w_4_204, w_4_205, w_1_1, by decide +kernel⟩
theorem lk_X5_bill : LkV yX5_bill cX5_bill 4 (some FieldType.int) 3 := ⟨w_3_194, w_3_195, w_3_196, w_1_1, by decide +kernel⟩
theorem lk_X5_cast : LkV yX5_cast cX5_cast 5 (some FieldType.int) 3 := ⟨w_4_82, w_4_83, w_4_84, w_1_1, by decide +kernel⟩
theorem lk_X5_find : LkV yX5_find cX5_find 7 (some FieldType.int) 3 := ⟨w_4_158, w_4_159, w_4_160, w_1_1, by decide +kernel⟩
theorem lk_X5_firstNight : LkS yX5_firstNight cX5_firstNight 2 (some FieldType.int) 1 := ⟨w_4_7, w_4_8, w_1_1, by decide +kernel⟩
theorem lk_X5_found : LkV yX5_found cX5_found 3 (some FieldType.int) 2 := ⟨w_4_30, w_4_31, w_4_32, w_1_1, by decide +kernel⟩
theorem lk_X5_groupsAbove : LkS yX5_groupsAbove cX5_groupsAbove 6 (some FieldType.long) 2 := ⟨w_5_21, w_5_22, w_1_1, by decide +kernel⟩
theorem lk_X5_hasBillBefore : LkV yX5_hasBillBefore cX5_hasBillBefore 4 (some FieldType.boolean) 2 := ⟨w_3_161, w_s_11, w_3_162, w_1_1, by decide +kernel⟩
theorem lk_X5_hasNight : LkS yX5_hasNight cX5_hasNight 1 (some FieldType.boolean) 1 := ⟨w_2_7, w_2_8, w_1_1, by decide +kernel⟩
theorem lk_X5_holds : LkS yX5_holds cX5_holds 2 (some FieldType.boolean) 2 := ⟨w_2_38, w_2_39, w_1_1, by decide +kernel⟩
theorem lk_X5_ifIll : LkV yX5_ifIll cX5_ifIll 4 (some FieldType.int) 3 := ⟨w_4_187, w_4_188, w_4_189, w_1_1, by decide +kernel⟩
theorem lk_X5_ill : LkV yX5_ill cX5_ill 4 (some FieldType.int) 3 := ⟨w_1_164, w_1_165, w_1_166, w_1_1, by decide +kernel⟩
theorem lk_X5_isDarkInTrial : LkV yX5_isDarkInTrial cX5_isDarkInTrial 3 (some FieldType.boolean) 2 := ⟨w_5_35, w_s_22, w_5_36, w_1_1, by decide +kernel⟩
theorem lk_X5_isIndex : LkS yX5_isIndex cX5_isIndex 2 (some FieldType.boolean) 2 := ⟨w_2_10, w_2_11, w_1_1, by decide +kernel⟩
theorem lk_X5_lastNight : LkS yX5_lastNight cX5_lastNight 2 (some FieldType.int) 1 := ⟨w_4_10, w_4_11, w_1_1, by decide +kernel⟩
theorem lk_X5_load : LkV yX5_load cX5_load 3 (some FieldType.int) 0 := ⟨w_2_103, w_2_104, w_2_105, w_1_1, by decide +kernel⟩
theorem lk_X5_longest : LkV yX5_longest cX5_longest 7 (some FieldType.int) 2 := ⟨w_4_177, w_4_178, w_4_179, w_1_1, by decide +kernel⟩
theorem lk_X5_lose : LkV yX5_lose cX5_lose 2 (some FieldType.int) 1 := ⟨w_4_114, w_4_115, w_4_116, w_1_1, by decide +kernel⟩
theorem lk_X5_needed : LkV yX5_needed cX5_needed 5 (some FieldType.int) 0 := ⟨w_5_66, w_5_67, w_5_68, w_1_1, by decide +kernel⟩
theorem lk_X5_night : LkV yX5_night cX5_night 3 (some FieldType.int) 2 := ⟨w_3_213, w_3_214, w_3_215, w_1_1, by decide +kernel⟩
theorem lk_X5_nightsOf : LkV yX5_nightsOf cX5_nightsOf 4 (some FieldType.int) 1 := ⟨w_3_237, w_s_15, w_3_238, w_1_1, by decide +kernel⟩
theorem lk_X5_nightsOfPart : LkV yX5_nightsOfPart cX5_nightsOfPart 5 (some FieldType.int) 2 := ⟨w_4_164, w_s_18, w_4_165, w_1_1, by decide +kernel⟩
theorem lk_X5_obeyGroup : LkV yX5_obeyGroup cX5_obeyGroup 6 (some FieldType.boolean) 1 := ⟨w_5_27, w_s_20, w_5_28, w_1_1, by decide +kernel⟩
theorem lk_X5_obeyText : LkV yX5_obeyText cX5_obeyText 2 (some FieldType.boolean) 1 := ⟨w_2_198, w_s_4, w_2_199, w_1_1, by decide +kernel⟩
theorem lk_X5_partsChanged : LkV yX5_partsChanged cX5_partsChanged 3 (some FieldType.int) 0 := ⟨w_4_197, w_s_19, w_4_198, w_1_1, by decide +kernel⟩
theorem lk_X5_partsOf : LkV yX5_partsOf cX5_partsOf 5 (some FieldType.int) 1 := ⟨w_4_14, w_s_16, w_4_15, w_1_1, by decide +kernel⟩
theorem lk_X5_partsOfOthers : LkV yX5_partsOfOthers cX5_partsOfOthers 4 (some FieldType.int) 1 := ⟨w_3_224, w_s_14, w_3_225, w_1_1, by decide +kernel⟩
theorem lk_X5_played : LkV yX5_played cX5_played 3 (some FieldType.int) 2 := ⟨w_3_180, w_3_181, w_3_182, w_1_1, by decide +kernel⟩
theorem lk_X5_playsInTrial : LkV yX5_playsInTrial cX5_playsInTrial 4 (some FieldType.boolean) 3 := ⟨w_5_31, w_s_21, w_5_32, w_1_1, by decide +kernel⟩
theorem lk_X5_ranked : LkV yX5_ranked cX5_ranked 3 (some FieldType.int) 2 := ⟨w_4_21, w_4_22, w_4_23, w_1_1, by decide +kernel⟩
theorem lk_X5_release : LkV yX5_release cX5_release 4 (some FieldType.int) 2 := ⟨w_4_101, w_4_102, w_4_103, w_1_1, by decide +kernel⟩
theorem lk_X5_requireActor : LkV yX5_requireActor cX5_requireActor 2 none 1 := ⟨w_1_169, w_s_0, w_1_170, w_1_1, by decide +kernel⟩
theorem lk_X5_requireNight : LkS yX5_requireNight cX5_requireNight 1 none 1 := ⟨w_2_4, w_2_5, w_1_1, by decide +kernel⟩
theorem lk_X5_requirePart : LkV yX5_requirePart cX5_requirePart 2 none 1 := ⟨w_3_185, w_s_13, w_3_186, w_1_1, by decide +kernel⟩
theorem lk_X5_requireSetting : LkS yX5_requireSetting cX5_requireSetting 1 none 1 := ⟨w_4_55, w_4_56, w_1_1, by decide +kernel⟩
theorem lk_X5_requireSlip : LkV yX5_requireSlip cX5_requireSlip 2 none 1 := ⟨w_4_35, w_s_17, w_4_36, w_1_1, by decide +kernel⟩
theorem lk_X5_requireSlot : LkS yX5_requireSlot cX5_requireSlot 1 none 1 := ⟨w_4_218, w_4_219, w_1_1, by decide +kernel⟩
theorem lk_X5_restore : LkV yX5_restore cX5_restore 2 (some FieldType.int) 1 := ⟨w_4_226, w_4_227, w_4_228, w_1_1, by decide +kernel⟩
theorem lk_X5_runScript : LkV yX5_runScript cX5_runScript 6 (some FieldType.int) 2 := ⟨w_5_16, w_5_17, w_5_18, w_1_1, by decide +kernel⟩
theorem lk_X5_save : LkV yX5_save cX5_save 2 (some FieldType.int) 1 := ⟨w_4_214, w_4_215, w_4_216, w_1_1, by decide +kernel⟩
theorem lk_X5_set : LkV yX5_set cX5_set 4 (some FieldType.int) 2 := ⟨w_4_126, w_4_127, w_4_128, w_1_1, by decide +kernel⟩
theorem lk_X5_setting : LkV yX5_setting cX5_setting 2 (some FieldType.int) 1 := ⟨w_4_51, w_4_52, w_4_53, w_1_1, by decide +kernel⟩
theorem lk_X5_simulate : LkV yX5_simulate cX5_simulate 7 (some FieldType.int) 2 := ⟨w_5_42, w_5_43, w_5_44, w_1_1, by decide +kernel⟩
theorem lk_X5_slip : LkV yX5_slip cX5_slip 6 (some FieldType.int) 4 := ⟨w_5_6, w_5_7, w_5_8, w_1_1, by decide +kernel⟩
theorem lk_X5_slipsThatPlay : LkV yX5_slipsThatPlay cX5_slipsThatPlay 3 (some FieldType.int) 0 := ⟨w_3_165, w_s_12, w_3_166, w_1_1, by decide +kernel⟩
theorem lk_X5_takeTurn : LkV yX5_takeTurn cX5_takeTurn 3 none 1 := ⟨w_5_50, w_s_23, w_5_51, w_1_1, by decide +kernel⟩
theorem lk_X5_together : LkV yX5_together cX5_together 3 (some FieldType.int) 2 := ⟨w_4_170, w_4_171, w_4_172, w_1_1, by decide +kernel⟩
theorem lk_X5_understudy : LkV yX5_understudy cX5_understudy 3 (some FieldType.int) 2 := ⟨w_4_91, w_4_92, w_4_93, w_1_1, by decide +kernel⟩
theorem lk_X5_undo : LkV yX5_undo cX5_undo 1 (some FieldType.int) 0 := ⟨w_4_138, w_4_139, w_4_140, w_1_1, by decide +kernel⟩
theorem lk_X5_unlikeBills : LkV yX5_unlikeBills cX5_unlikeBills 3 (some FieldType.int) 0 := ⟨w_3_143, w_s_10, w_3_144, w_1_1, by decide +kernel⟩
theorem uX0 : ∀ w ∈ u_ws RX0 TX0 10, w ∈ Tw := by decide +kernel
theorem uX1 : ∀ w ∈ u_ws RX1 TX1 3, w ∈ Tw := by decide +kernel
theorem uX2 : ∀ w ∈ u_ws RX2 TX2 2, w ∈ Tw := by decide +kernel
theorem uX3 : ∀ w ∈ u_ws RX3 TX3 3, w ∈ Tw := by decide +kernel
theorem uX4 : ∀ w ∈ u_ws RX4 TX4 1, w ∈ Tw := by decide +kernel
theorem uX5 : ∀ w ∈ u_ws RX5 TX5 10, w ∈ Tw := by decide +kernel
theorem uX6 : ∀ w ∈ u_ws RX6 TX6 0, w ∈ Tw := by decide +kernel
