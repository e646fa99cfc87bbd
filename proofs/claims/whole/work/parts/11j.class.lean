/-! the texts of the reading -/
section TX2
variable {l : Launch} {E : Ev} {cc : ByteArray} {nL : Nat} {own : String} {fr lo kc ks : Nat} {ω : Om} {ws : va_W} {lv : List (Nat × Value)} {st rest As : List Value} {pc index maxL fr' lo' : Nat} {y : MethodName} {bytes : ByteArray} {ret : Option FieldType}
theorem dg_e {i : Nat} (h : i < 6) : digL.getD i 0 = i := by
  rcases (by omega : i = 0 ∨ i = 1 ∨ i = 2 ∨ i = 3 ∨ i = 4 ∨ i = 5) with rfl | rfl | rfl | rfl | rfl | rfl <;> rfl
def sN (i : Nat) : Nat := digN.getD i 0
def sCh (i k : Nat) : Nat := ((digB.getD i []).getD k 0).toNatClampNeg
theorem sN_le : ∀ i, i < 6 → sN i ≤ 6 := by decide
theorem sCh_e : ∀ i, i < 6 → ∀ k, k < 6 → (digB.getD i []).getD k 0 = nI (sCh i k) ∧ sCh i k < 128 := by decide +kernel
theorem q_getV (C : Cw l E cc nL own fr lo kc ks ω) {i : Nat} (hi : i < 6) (hl9 : Cond.fieldLink own index "java/lang/String" "value" "[B" ∈ Tw) (hd : decode cc pc = .ok (.getfield index, 3)) (k : ω ws lv (.ref (E.2.2.2 i) :: st) (pc + 3)) : ω ws lv (.ref (E.2.2.1 i) :: st) pc := r_getV C i hi (dg_e hi) hl9 hd k
theorem q_getK (C : Cw l E cc nL own fr lo kc ks ω) {i : Nat} (hi : i < 6) (hl9 : Cond.fieldLink own index "java/lang/String" "coder" "B" ∈ Tw) (hd : decode cc pc = .ok (.getfield index, 3)) (k : ω ws lv (.int (nI 0) :: st) (pc + 3)) : ω ws lv (.ref (E.2.2.1 i) :: st) pc := r_getK C i hi (dg_e hi) hl9 hd k
theorem q_alen (C : Cw l E cc nL own fr lo kc ks ω) {i : Nat} (hi : i < 6) (hd : decode cc pc = .ok (.arraylength, 1)) (k : ω ws lv (.int (nI (sN i)) :: st) (pc + 1)) : ω ws lv (.ref (E.2.2.2 i) :: st) pc := r_alenS C i hi rfl hd k
theorem q_bald (C : Cw l E cc nL own fr lo kc ks ω) {i j : Nat} (hi : i < 6) (hj : j < sN i) (hd : decode cc pc = .ok (.baload, 1)) (k : ω ws lv (.int (nI (sCh i j)) :: st) (pc + 1)) : ω ws lv (.int (nI j) :: .ref (E.2.2.2 i) :: st) pc := by
  have h1 := sN_le i hi
  refine r_baldS C i hi (vp_in_iff.mpr ((vI_N (by omega)).mpr hj)) ?_ hd k
  rw [nI_clamp (by omega)]
  exact (sCh_e i hi j (by omega)).1
theorem u16 {x : Nat} (h : x < 65536) : ((nI x).toUInt32 % 65536).toInt32 = nI x := by
  have e : (nI x).toUInt32 = UInt32.ofNat x := rfl
  rw [e]
  have e2 : UInt32.ofNat x % 65536 = UInt32.ofNat x := by
    apply UInt32.toNat_inj.mp
    rw [UInt32.toNat_mod, UInt32.toNat_ofNat']
    have : x % 2 ^ 32 = x := Nat.mod_eq_of_lt (by omega)
    rw [this]
    exact Nat.mod_eq_of_lt h
  rw [e2, ← e]
  rfl
theorem nar_ch {x : Nat} (h : x < 65536) : narrow .char (.int (nI x)) = .int (nI x) := by
  show Value.int (nI x).toUInt32.toUInt16.toUInt32.toInt32 = .int (nI x)
  have e : (nI x).toUInt32.toUInt16.toUInt32 = (nI x).toUInt32 := by
    have e0 : (nI x).toUInt32 = UInt32.ofNat x := rfl
    rw [e0]
    apply UInt32.toNat_inj.mp
    rw [UInt16.toNat_toUInt32, UInt32.toNat_toUInt16, UInt32.toNat_ofNat']
    omega
  rw [e]
  rfl
theorem q_i2c (C : Cw l E cc nL own fr lo kc ks ω) {x : Nat} (hx : x < 65536) (hd : decode cc pc = .ok (.i2c, 1)) (k : ω ws lv (.int (nI x) :: st) (pc + 1)) : ω ws lv (.int (nI x) :: st) pc := by
  obtain ⟨p, e, R, s, m, args, below, meth, c, A, Q, hx9, hb, hml, hown, hts, hK, hA, hG, hfr, hlo, hkc, hks, rfl⟩ := C
  intro H locs ls hP hD hS hl
  exact lv_i2c hx9 hb hd (u16 hx) (k H locs ls hP hD hS hl)
theorem q_readT {rv : Option Value} {st' : List Value} (C : Cw l E cc nL own fr lo kc ks ω) {i : Nat} (hM : Cr l E y bytes maxL ret fr' lo' (.ref (E.2.2.1 i) :: As) [] rv) (hk : LkV y bytes maxL ret As.length) (hl : Cond.methodLink own index y ∈ Tw) (hi : i < 6) (hy : y.cls = "java/lang/String") (hd : decode cc pc = .ok (.invokevirtual index, 3)) (hst : st = As.reverse ++ .ref (E.2.2.1 i) :: rest) (hR : fr' + 1 ≤ fr ∧ 8 + (maxL + 11) + lo' ≤ lo) (hrm : (rest.map fun v => v.category).sum ≤ 8) (hst' : rv.toList ++ rest = st')
    (kk : ω ws lv st' (pc + 3)) : ω ws lv st pc := by
  obtain ⟨p, e, R, s, m, args, below, meth, c, A, Q, hx, hb, hml, hown, hts, hK, hA, hG, hfr, hlo, hkc, hks, rfl⟩ := C
  intro H locs ls hP hD hS hl9
  obtain ⟨k1, k2, k3, k4, k5⟩ := hk
  subst hfr; subst hlo
  have hC : ([] : List Nat).map (fun i => ws[i]?) = ([] : va_W).map some := rfl
  have hrc := vk_recv (hG.2.2.2.2.1 i hi) (Nat.lt_succ_self 0) hS
  rw [dg_e hi] at hrc
  refine run_on hP hD hS hA hC (va_runV (As := As) (rest := rest) (b := E.2.2.1 i) (C := y.cls) (index := index) ⟨hx, hb, hml, hown, hts⟩ (hM H.size) ⟨cB As.length hts k3 k4 hl k5 hR, hts _ k1, hts _ k2⟩ ⟨Pr_blind, by rw [hy]; exact hrc, fun U hU hW => ⟨rfl, Pr_cut hK hG hA hP hD hS hC rfl hU hW⟩⟩ rfl rfl hl9.1 hst (lv_room hrm) hd ⟨hkc, hks⟩) ?_
  intro v w H1 locs1 hp hP1 hD1 hS1
  obtain ⟨rfl, rfl⟩ := hp
  have := kk H1 locs1 ls (by rw [← mrg_self hC]; exact hP1) (by rw [← mrg_self hC]; exact hD1) hS1 hl9
  rw [hst']
  exact this
end TX2
/-- which text tells what stands behind a sign -/
def tI (c : Nat) : Nat := if c = 97 then 0 else if c = 99 then 1 else if c = 117 then 2 else if c = 105 then 3 else if c = 115 then 4 else 5
theorem tI_lt (c : Nat) : tI c < 6 := by unfold tI; split <;> (try split) <;> (try split) <;> (try split) <;> (try split) <;> omega
theorem sN_tI (c : Nat) : sN (tI c) = nD c := by unfold tI nD; split <;> (try split) <;> (try split) <;> (try split) <;> (try split) <;> rfl
theorem tI_o {c : Nat} (h : c ≠ 97 ∧ c ≠ 99 ∧ c ≠ 117 ∧ c ≠ 105 ∧ c ≠ 115) : tI c = 5 := by
  unfold tI
  rw [if_neg (by omega), if_neg (by omega), if_neg (by omega), if_neg (by omega), if_neg (by omega)]
theorem nD_0 {c : Nat} : nD c = 0 ↔ c ≠ 97 ∧ c ≠ 99 ∧ c ≠ 117 ∧ c ≠ 105 ∧ c ≠ 115 := by
  unfold nD; split <;> (try split) <;> (try split) <;> (try split) <;> (try split) <;> omega
def lim (h p : Nat) : Nat := if h = 104 then (if p = 50 then 51 else 57) else h
theorem lim_hi {c k p : Nat} (hk : k < nD c) : lim (sCh (tI c) k) p = hiD c k p := by
  have hc : ¬ nD c = 0 := by omega
  rw [nD_0] at hc
  rcases (by omega : c = 97 ∨ c = 99 ∨ c = 117 ∨ c = 105 ∨ c = 115) with rfl | rfl | rfl | rfl | rfl
  · obtain rfl : k = 0 := (by have : nD 97 = 1 := rfl; omega)
    rfl
  · rcases (by have : nD 99 = 4 := rfl; omega : k = 0 ∨ k = 1 ∨ k = 2 ∨ k = 3) with rfl | rfl | rfl | rfl <;> rfl
  · rcases (by have : nD 117 = 2 := rfl; omega : k = 0 ∨ k = 1) with rfl | rfl <;> rfl
  · rcases (by have : nD 105 = 3 := rfl; omega : k = 0 ∨ k = 1 ∨ k = 2) with rfl | rfl | rfl <;> rfl
  · rcases (by have : nD 115 = 6 := rfl; omega : k = 0 ∨ k = 1 ∨ k = 2 ∨ k = 3 ∨ k = 4 ∨ k = 5) with rfl | rfl | rfl | rfl | rfl | rfl <;> rfl
/-- where what stands behind a command is wrong, and one more; 0: nowhere -/
def fbN (sg : Nat → Nat) (sz i : Nat) : Nat := if fk sg sz i = nD (sg i) then 0 else i + 1 + fk sg sz i + 1
set_option maxRecDepth 100000 in
set_option maxHeartbeats 1000000 in
theorem c_J0_coder {l : Launch} {E : Ev} {i : Nat} (hi6 : i < 6) : Cr l E yJ0_coder_7d493 cJ0_coder_7d493 1 (some FieldType.byte) 0 0 [.ref (E.2.2.1 i)] [] (some (.int (nI 0))) := by
  refine ct_of (by decide +kernel) (Nat.le_of_ble_eq_true rfl) (fun ω C RT => ?_)
  show ω [] [(0, .ref (E.2.2.1 i))] [] 0
  refine r_gets C w_1_212 dJ0_coder_7d493_0 ?_
  refine r_if_eqF C (y := 0) (tgt := 13) dJ0_coder_7d493_3 (by decide) (fun z => ((by omega) : ¬ (1 = 0)) ((z_eqN (by omega)).mp z)) ?_
  refine r_aload_n C (i := 0) 0 dJ0_coder_7d493_6 rfl rfl ?_
  refine q_getK C (by omega) w_6_171 dJ0_coder_7d493_7 ?_
  refine r_goto C 14 dJ0_coder_7d493_10 (by decide) ?_
  exact RT.1 _ _ _ _ _ dJ0_coder_7d493_14 rfl rfl (rd_i rfl) rfl
set_option maxRecDepth 100000 in
set_option maxHeartbeats 1000000 in
theorem c_J0_length {l : Launch} {E : Ev} {i : Nat} (hi6 : i < 6) : Cr l E yJ0_length_8abf5 cJ0_length_8abf5 1 (some FieldType.int) 1 20 [.ref (E.2.2.1 i)] [] (some (.int (nI (sN i)))) := by
  have hsn := sN_le i hi6
  refine ct_of (by decide +kernel) (Nat.le_of_ble_eq_true rfl) (fun ω C RT => ?_)
  show ω [] [(0, .ref (E.2.2.1 i))] [] 0
  refine r_aload_n C (i := 0) 0 dJ0_length_8abf5_0 rfl rfl ?_
  refine q_getV C (by omega) w_6_170 dJ0_length_8abf5_1 ?_
  refine q_alen C (by omega) dJ0_length_8abf5_4 ?_
  refine r_aload_n C (i := 0) 0 dJ0_length_8abf5_5 rfl rfl ?_
  refine q_readT (rest := [.int (nI (sN i))]) C (c_J0_coder (i := i) (hi6 := (by omega))) lk_J0_coder_7d493 w_1_208 (by omega) rfl dJ0_length_8abf5_6 rfl ⟨by decide, by decide⟩ (Nat.le_of_ble_eq_true rfl) (st' := [.int (nI 0), .int (nI (sN i))]) rfl ?_
  refine r_ishr (v := nI (sN i)) C dJ0_length_8abf5_9 ((v_shr (by omega) (by omega)).trans (congrArg nI (Nat.div_one _))) ?_
  exact RT.1 _ _ _ _ _ dJ0_length_8abf5_10 rfl rfl (rd_i rfl) rfl
set_option maxRecDepth 100000 in
set_option maxHeartbeats 1000000 in
theorem c_J0_isEmpty {l : Launch} {E : Ev} {i : Nat} (hi6 : i < 6) : Cr l E yJ0_isEmpty_aae02 cJ0_isEmpty_aae02 1 (some FieldType.boolean) 0 0 [.ref (E.2.2.1 i)] [] (some (.int (bP (sN i = 0)))) := by
  have hsn := sN_le i hi6
  refine ct_of (by decide +kernel) (Nat.le_of_ble_eq_true rfl) (fun ω C RT => ?_)
  show ω [] [(0, .ref (E.2.2.1 i))] [] 0
  refine r_aload_n C (i := 0) 0 dJ0_isEmpty_aae02_0 rfl rfl ?_
  refine q_getV C (by omega) w_6_170 dJ0_isEmpty_aae02_1 ?_
  refine q_alen C (by omega) dJ0_isEmpty_aae02_4 ?_
  refine r_if_ne C (y := 0) (c9 := sN i ≠ 0) 12 dJ0_isEmpty_aae02_5 (by decide) (z_neN (by omega)) (fun h5_1 => ?_) (fun h5_1 => ?_)
  · refine r_iconst C dJ0_isEmpty_aae02_12 ki_0 ?_
    exact RT.1 _ _ _ _ _ dJ0_isEmpty_aae02_13 rfl nar_0 (rd_i (bP_f (by omega))) rfl
  · refine r_iconst C dJ0_isEmpty_aae02_8 ki_1 ?_
    refine r_goto C 13 dJ0_isEmpty_aae02_9 (by decide) ?_
    exact RT.1 _ _ _ _ _ dJ0_isEmpty_aae02_13 rfl nar_1 (rd_i (bP_t (by omega))) rfl
set_option maxRecDepth 100000 in
set_option maxHeartbeats 1000000 in
theorem c_J0_isLatin1 {l : Launch} {E : Ev} {i : Nat} (hi6 : i < 6) : Cr l E yJ0_isLatin1_aae02 cJ0_isLatin1_aae02 1 (some FieldType.boolean) 0 0 [.ref (E.2.2.1 i)] [] (some (.int (nI 1))) := by
  refine ct_of (by decide +kernel) (Nat.le_of_ble_eq_true rfl) (fun ω C RT => ?_)
  show ω [] [(0, .ref (E.2.2.1 i))] [] 0
  refine r_gets C w_1_212 dJ0_isLatin1_aae02_0 ?_
  refine r_if_eqF C (y := 0) (tgt := 17) dJ0_isLatin1_aae02_3 (by decide) (fun z => ((by omega) : ¬ (1 = 0)) ((z_eqN (by omega)).mp z)) ?_
  refine r_aload_n C (i := 0) 0 dJ0_isLatin1_aae02_6 rfl rfl ?_
  refine q_getK C (by omega) w_6_171 dJ0_isLatin1_aae02_7 ?_
  refine r_if_neF C (y := 0) (tgt := 17) dJ0_isLatin1_aae02_10 (by decide) (fun z => ((by omega) : ¬ (0 ≠ 0)) ((z_neN (by omega)).mp z)) ?_
  refine r_iconst C dJ0_isLatin1_aae02_13 ki_1 ?_
  refine r_goto C 18 dJ0_isLatin1_aae02_14 (by decide) ?_
  exact RT.1 _ _ _ _ _ dJ0_isLatin1_aae02_18 rfl nar_1 (rd_i rfl) rfl
set_option maxRecDepth 100000 in
set_option maxHeartbeats 1000000 in
theorem c_J3_checkIndex__n {l : Launch} {E : Ev} {k n : Nat} (hk : k < n) (hn : n < 2147483648) : Cr l E yJ3_checkIndex_8e157 cJ3_checkIndex_8e157 3 (some FieldType.int) 0 0 [.int (nI k), .int (nI n), .null] [] (some (.int (nI k))) := by
  refine ct_of (by decide +kernel) (Nat.le_of_ble_eq_true rfl) (fun ω C RT => ?_)
  show ω [] [(0, .int (nI k)), (1, .int (nI n)), (2, .null)] [] 0
  refine r_iload_n C (i := 0) 0 dJ3_checkIndex_8e157_0 rfl rfl ?_
  refine r_if_ltF C (y := 0) (tgt := 9) dJ3_checkIndex_8e157_1 (by decide) (fun z => ((by omega) : ¬ (k < 0)) ((z_ltN (by omega)).mp z)) ?_
  refine r_iload_n C (i := 0) 0 dJ3_checkIndex_8e157_4 rfl rfl ?_
  refine r_iload_n C (i := 1) 1 dJ3_checkIndex_8e157_5 rfl rfl ?_
  refine r_icmp_ltT C 16 dJ3_checkIndex_8e157_6 (by decide) ((c_ltNN (by omega) (by omega)).mpr (by omega)) ?_
  refine r_iload_n C (i := 0) 0 dJ3_checkIndex_8e157_16 rfl rfl ?_
  exact RT.1 _ _ _ _ _ dJ3_checkIndex_8e157_17 rfl rfl (rd_i rfl) rfl
set_option maxRecDepth 100000 in
set_option maxHeartbeats 1000000 in
theorem c_J3_checkIndex__r {l : Launch} {E : Ev} {k n : Nat} {t : Nat} (hk : k < n) (hn : n < 2147483648) : Cr l E yJ3_checkIndex_8e157 cJ3_checkIndex_8e157 3 (some FieldType.int) 0 0 [.int (nI k), .int (nI n), (.ref t)] [] (some (.int (nI k))) := by
  refine ct_of (by decide +kernel) (Nat.le_of_ble_eq_true rfl) (fun ω C RT => ?_)
  show ω [] [(0, .int (nI k)), (1, .int (nI n)), (2, (.ref t))] [] 0
  refine r_iload_n C (i := 0) 0 dJ3_checkIndex_8e157_0 rfl rfl ?_
  refine r_if_ltF C (y := 0) (tgt := 9) dJ3_checkIndex_8e157_1 (by decide) (fun z => ((by omega) : ¬ (k < 0)) ((z_ltN (by omega)).mp z)) ?_
  refine r_iload_n C (i := 0) 0 dJ3_checkIndex_8e157_4 rfl rfl ?_
  refine r_iload_n C (i := 1) 1 dJ3_checkIndex_8e157_5 rfl rfl ?_
  refine r_icmp_ltT C 16 dJ3_checkIndex_8e157_6 (by decide) ((c_ltNN (by omega) (by omega)).mpr (by omega)) ?_
  refine r_iload_n C (i := 0) 0 dJ3_checkIndex_8e157_16 rfl rfl ?_
  exact RT.1 _ _ _ _ _ dJ3_checkIndex_8e157_17 rfl rfl (rd_i rfl) rfl
theorem c_J3_checkIndex {l : Launch} {E : Ev} {k n : Nat} {v : Value} (hv : v = .null ∨ ∃ t : Nat, v = .ref t) (hk : k < n) (hn : n < 2147483648) : Cr l E yJ3_checkIndex_8e157 cJ3_checkIndex_8e157 3 (some FieldType.int) 0 0 [.int (nI k), .int (nI n), v] [] (some (.int (nI k))) := by
  rcases hv with rfl | ⟨t, rfl⟩
  · exact c_J3_checkIndex__n hk hn
  · exact c_J3_checkIndex__r hk hn
set_option maxRecDepth 100000 in
set_option maxHeartbeats 1000000 in
theorem c_J0_checkIndex {l : Launch} {E : Ev} {k n : Nat} (hk : k < n) (hn : n < 2147483648) : Cr l E yJ0_checkIndex_df160 cJ0_checkIndex_df160 2 none 1 22 [.int (nI k), .int (nI n)] [] none := by
  refine ct_of (by decide +kernel) (Nat.le_of_ble_eq_true rfl) (fun ω C RT => ?_)
  show ω [] [(0, .int (nI k)), (1, .int (nI n))] [] 0
  refine r_iload_n C (i := 0) 0 dJ0_checkIndex_df160_0 rfl rfl ?_
  refine r_iload_n C (i := 1) 1 dJ0_checkIndex_df160_1 rfl rfl ?_
  refine r_getsq C w_1_228 dJ0_checkIndex_df160_2 (fun v1 hq_v1 => ?_)
  refine r_readS (rest := []) C (c_J3_checkIndex (k := k) (n := n) (v := v1) (hv := hq_v1) (hk := (by omega)) (hn := (by omega))) lk_J3_checkIndex_8e157 w_1_230 [] dJ0_checkIndex_df160_5 rfl rfl rfl ⟨by decide, by decide⟩ (Nat.le_of_ble_eq_true rfl) (st' := [.int (nI k)]) rfl ?_
  refine r_pop C dJ0_checkIndex_df160_8 rfl ?_
  exact RT.2.2.1 _ _ _ dJ0_checkIndex_df160_9 rfl (rd_v) rfl
set_option maxRecDepth 100000 in
set_option maxHeartbeats 1000000 in
theorem c_J1_charAt {l : Launch} {E : Ev} {i k : Nat} (hi6 : i < 6) (hk : k < sN i) : Cr l E yJ1_charAt_3b067 cJ1_charAt_3b067 2 (some FieldType.char) 2 43 [.ref (E.2.2.2 i), .int (nI k)] [] (some (.int (nI (sCh i k)))) := by
  have hsn := sN_le i hi6
  have hch := (sCh_e i hi6 k (by omega)).2
  refine ct_of (by decide +kernel) (Nat.le_of_ble_eq_true rfl) (fun ω C RT => ?_)
  show ω [] [(0, .ref (E.2.2.2 i)), (1, .int (nI k))] [] 0
  refine r_iload_n C (i := 1) 1 dJ1_charAt_3b067_0 rfl rfl ?_
  refine r_aload_n C (i := 0) 0 dJ1_charAt_3b067_1 rfl rfl ?_
  refine q_alen C (by omega) dJ1_charAt_3b067_2 ?_
  refine r_readS (rest := []) C (c_J0_checkIndex (k := k) (n := sN i) (hk := (by omega)) (hn := (by omega))) lk_J0_checkIndex_df160 w_1_225 [] dJ1_charAt_3b067_3 rfl rfl rfl ⟨by decide, by decide⟩ (Nat.le_of_ble_eq_true rfl) (st' := []) rfl ?_
  refine r_aload_n C (i := 0) 0 dJ1_charAt_3b067_6 rfl rfl ?_
  refine r_iload_n C (i := 1) 1 dJ1_charAt_3b067_7 rfl rfl ?_
  refine q_bald C (by omega) (by omega) dJ1_charAt_3b067_8 ?_
  refine r_sipush C dJ1_charAt_3b067_9 ks_255 ?_
  refine r_iand (v := nI (sCh i k)) C dJ1_charAt_3b067_12 ((v_and _ _).trans (congrArg nI ((Nat.and_two_pow_sub_one_eq_mod (sCh i k) 8).trans (Nat.mod_eq_of_lt (by omega))))) ?_
  refine q_i2c C (by omega) dJ1_charAt_3b067_13 ?_
  exact RT.1 _ _ _ _ _ dJ1_charAt_3b067_14 rfl (nar_ch (by omega)) (rd_i rfl) rfl
set_option maxRecDepth 100000 in
set_option maxHeartbeats 1000000 in
theorem c_J0_charAt {l : Launch} {E : Ev} {i k : Nat} (hi6 : i < 6) (hk : k < sN i) : Cr l E yJ0_charAt_5068e cJ0_charAt_5068e 2 (some FieldType.char) 4 85 [.ref (E.2.2.1 i), .int (nI k)] [] (some (.int (nI (sCh i k)))) := by
  have hsn := sN_le i hi6
  have hch := (sCh_e i hi6 k (by omega)).2
  refine ct_of (by decide +kernel) (Nat.le_of_ble_eq_true rfl) (fun ω C RT => ?_)
  show ω [] [(0, .ref (E.2.2.1 i)), (1, .int (nI k))] [] 0
  refine r_aload_n C (i := 0) 0 dJ0_charAt_5068e_0 rfl rfl ?_
  refine q_readT (rest := []) C (c_J0_isLatin1 (i := i) (hi6 := (by omega))) lk_J0_isLatin1_aae02 w_1_218 (by omega) rfl dJ0_charAt_5068e_1 rfl ⟨by decide, by decide⟩ (Nat.le_of_ble_eq_true rfl) (st' := [.int (nI 1)]) rfl ?_
  refine r_if_eqF C (y := 0) (tgt := 16) dJ0_charAt_5068e_4 (by decide) (fun z => ((by omega) : ¬ (1 = 0)) ((z_eqN (by omega)).mp z)) ?_
  refine r_aload_n C (i := 0) 0 dJ0_charAt_5068e_7 rfl rfl ?_
  refine q_getV C (by omega) w_6_170 dJ0_charAt_5068e_8 ?_
  refine r_iload_n C (i := 1) 1 dJ0_charAt_5068e_11 rfl rfl ?_
  refine r_readS (rest := []) C (c_J1_charAt (i := i) (k := k) (hi6 := (by omega)) (hk := (by omega))) lk_J1_charAt_3b067 w_1_222 [] dJ0_charAt_5068e_12 rfl rfl rfl ⟨by decide, by decide⟩ (Nat.le_of_ble_eq_true rfl) (st' := [.int (nI (sCh i k))]) rfl ?_
  exact RT.1 _ _ _ _ _ dJ0_charAt_5068e_15 rfl (nar_ch (by omega)) (rd_i rfl) rfl
theorem look5 {d k b1 b2 b3 b4 b5 : Int} (h : k ≠ 97 ∧ k ≠ 99 ∧ k ≠ 105 ∧ k ≠ 115 ∧ k ≠ 117) : Op.lookupswitch.offset [(97, b1), (99, b2), (105, b3), (115, b4), (117, b5)] d k = d := by
  simp only [Op.lookupswitch.offset_cons, Op.lookupswitch.offset_nil]
  rw [if_neg (by omega), if_neg (by omega), if_neg (by omega), if_neg (by omega), if_neg (by omega)]
set_option maxRecDepth 100000 in
set_option maxHeartbeats 1000000 in
theorem c_X2_highestDigits__a {l : Launch} {E : Ev}  : Cr l E yX2_highestDigits cX2_highestDigits 1 (some (FieldType.object "java/lang/String")) 0 0 [.int (nI 97)] [] (some (.ref (E.2.2.1 0))) := by
  refine ct_of (by decide +kernel) (Nat.le_of_ble_eq_true rfl) (fun ω C RT => ?_)
  show ω [] [(0, .int (nI 97))] [] 0
  refine r_iload_n C (i := 0) 0 dX2_highestDigits_0 rfl rfl ?_
  refine r_look (off := 51) C 52 dX2_highestDigits_1 (by decide) (by decide) (by decide) ?_
  refine r_ldcS (j := 0) C dX2_highestDigits_52 rfl ?_
  exact RT.2.2.2 _ _ _ _ _ dX2_highestDigits_54 rfl (rd_a rfl) rfl
set_option maxRecDepth 100000 in
set_option maxHeartbeats 1000000 in
theorem c_X2_highestDigits__c {l : Launch} {E : Ev}  : Cr l E yX2_highestDigits cX2_highestDigits 1 (some (FieldType.object "java/lang/String")) 0 0 [.int (nI 99)] [] (some (.ref (E.2.2.1 1))) := by
  refine ct_of (by decide +kernel) (Nat.le_of_ble_eq_true rfl) (fun ω C RT => ?_)
  show ω [] [(0, .int (nI 99))] [] 0
  refine r_iload_n C (i := 0) 0 dX2_highestDigits_0 rfl rfl ?_
  refine r_look (off := 54) C 55 dX2_highestDigits_1 (by decide) (by decide) (by decide) ?_
  refine r_ldcS (j := 1) C dX2_highestDigits_55 rfl ?_
  exact RT.2.2.2 _ _ _ _ _ dX2_highestDigits_57 rfl (rd_a rfl) rfl
set_option maxRecDepth 100000 in
set_option maxHeartbeats 1000000 in
theorem c_X2_highestDigits__u {l : Launch} {E : Ev}  : Cr l E yX2_highestDigits cX2_highestDigits 1 (some (FieldType.object "java/lang/String")) 0 0 [.int (nI 117)] [] (some (.ref (E.2.2.1 2))) := by
  refine ct_of (by decide +kernel) (Nat.le_of_ble_eq_true rfl) (fun ω C RT => ?_)
  show ω [] [(0, .int (nI 117))] [] 0
  refine r_iload_n C (i := 0) 0 dX2_highestDigits_0 rfl rfl ?_
  refine r_look (off := 57) C 58 dX2_highestDigits_1 (by decide) (by decide) (by decide) ?_
  refine r_ldcS (j := 2) C dX2_highestDigits_58 rfl ?_
  exact RT.2.2.2 _ _ _ _ _ dX2_highestDigits_60 rfl (rd_a rfl) rfl
set_option maxRecDepth 100000 in
set_option maxHeartbeats 1000000 in
theorem c_X2_highestDigits__i {l : Launch} {E : Ev}  : Cr l E yX2_highestDigits cX2_highestDigits 1 (some (FieldType.object "java/lang/String")) 0 0 [.int (nI 105)] [] (some (.ref (E.2.2.1 3))) := by
  refine ct_of (by decide +kernel) (Nat.le_of_ble_eq_true rfl) (fun ω C RT => ?_)
  show ω [] [(0, .int (nI 105))] [] 0
  refine r_iload_n C (i := 0) 0 dX2_highestDigits_0 rfl rfl ?_
  refine r_look (off := 60) C 61 dX2_highestDigits_1 (by decide) (by decide) (by decide) ?_
  refine r_ldcS (j := 3) C dX2_highestDigits_61 rfl ?_
  exact RT.2.2.2 _ _ _ _ _ dX2_highestDigits_63 rfl (rd_a rfl) rfl
set_option maxRecDepth 100000 in
set_option maxHeartbeats 1000000 in
theorem c_X2_highestDigits__s {l : Launch} {E : Ev}  : Cr l E yX2_highestDigits cX2_highestDigits 1 (some (FieldType.object "java/lang/String")) 0 0 [.int (nI 115)] [] (some (.ref (E.2.2.1 4))) := by
  refine ct_of (by decide +kernel) (Nat.le_of_ble_eq_true rfl) (fun ω C RT => ?_)
  show ω [] [(0, .int (nI 115))] [] 0
  refine r_iload_n C (i := 0) 0 dX2_highestDigits_0 rfl rfl ?_
  refine r_look (off := 63) C 64 dX2_highestDigits_1 (by decide) (by decide) (by decide) ?_
  refine r_ldcS (j := 4) C dX2_highestDigits_64 rfl ?_
  exact RT.2.2.2 _ _ _ _ _ dX2_highestDigits_66 rfl (rd_a rfl) rfl
set_option maxRecDepth 100000 in
set_option maxHeartbeats 1000000 in
theorem c_X2_highestDigits__o {l : Launch} {E : Ev} {c : Nat} (hc : c < 256) (hn : c ≠ 97 ∧ c ≠ 99 ∧ c ≠ 117 ∧ c ≠ 105 ∧ c ≠ 115) : Cr l E yX2_highestDigits cX2_highestDigits 1 (some (FieldType.object "java/lang/String")) 0 0 [.int (nI c)] [] (some (.ref (E.2.2.1 5))) := by
  refine ct_of (by decide +kernel) (Nat.le_of_ble_eq_true rfl) (fun ω C RT => ?_)
  show ω [] [(0, .int (nI c))] [] 0
  refine r_iload_n C (i := 0) 0 dX2_highestDigits_0 rfl rfl ?_
  refine r_look (off := 66) C 67 dX2_highestDigits_1 (by decide) (look5 (by rw [nI_toInt (by omega)]; omega)) (by decide) ?_
  refine r_ldcS (j := 5) C dX2_highestDigits_67 rfl ?_
  exact RT.2.2.2 _ _ _ _ _ dX2_highestDigits_69 rfl (rd_a rfl) rfl
theorem c_X2_highestDigits {l : Launch} {E : Ev} {c : Nat} (hc : c < 256) : Cr l E yX2_highestDigits cX2_highestDigits 1 (some (FieldType.object "java/lang/String")) 0 0 [.int (nI c)] [] (some (.ref (E.2.2.1 (tI c)))) := by
  by_cases h : c = 97 ∨ c = 99 ∨ c = 117 ∨ c = 105 ∨ c = 115
  · rcases h with rfl | rfl | rfl | rfl | rfl
    · exact c_X2_highestDigits__a
    · exact c_X2_highestDigits__c
    · exact c_X2_highestDigits__u
    · exact c_X2_highestDigits__i
    · exact c_X2_highestDigits__s
  · rw [tI_o (by omega)]; exact c_X2_highestDigits__o hc (by omega)
set_option maxRecDepth 100000 in
set_option maxHeartbeats 1000000 in
theorem c_X2_isCommand {l : Launch} {E : Ev} {c : Nat} (hc : c < 256) : Cr l E yX2_isCommand cX2_isCommand 1 (some FieldType.boolean) 1 20 [.int (nI c)] [] (some (.int (bP (isC c)))) := by
  have htl := tI_lt c
  have hsn := sN_tI c
  have hn0 := nD_0 (c := c)
  refine ct_of (by decide +kernel) (Nat.le_of_ble_eq_true rfl) (fun ω C RT => ?_)
  show ω [] [(0, .int (nI c))] [] 0
  refine r_iload_n C (i := 0) 0 dX2_isCommand_0 rfl rfl ?_
  refine r_bipush C dX2_isCommand_1 kb_112 ?_
  refine r_icmp_eq C (c9 := c = 112) 16 dX2_isCommand_3 (by decide) (c_eqNN (by omega) (by omega)) (fun h3_1 => ?_) (fun h3_1 => ?_)
  · refine r_iconst C dX2_isCommand_16 ki_1 ?_
    refine r_goto C 21 dX2_isCommand_17 (by decide) ?_
    exact RT.1 _ _ _ _ _ dX2_isCommand_21 rfl nar_1 (rd_i (bP_t (by show isC c; unfold isC; omega))) rfl
  · refine r_iload_n C (i := 0) 0 dX2_isCommand_6 rfl rfl ?_
    refine r_readS (rest := []) C (c_X2_highestDigits (c := c) (hc := (by omega))) lk_X2_highestDigits w_1_187 [] dX2_isCommand_7 rfl rfl rfl ⟨by decide, by decide⟩ (Nat.le_of_ble_eq_true rfl) (st' := [.ref (E.2.2.1 (tI c))]) rfl ?_
    refine q_readT (rest := []) C (c_J0_isEmpty (i := tI c) (hi6 := (by omega))) lk_J0_isEmpty_aae02 w_1_196 (by omega) rfl dX2_isCommand_10 rfl ⟨by decide, by decide⟩ (Nat.le_of_ble_eq_true rfl) (st' := [.int (bP (sN (tI c) = 0))]) rfl ?_
    refine r_if_ne C (y := 0) (c9 := sN (tI c) = 0) 20 dX2_isCommand_13 (by decide) z_neB (fun h13_2 => ?_) (fun h13_2 => ?_)
    · refine r_iconst C dX2_isCommand_20 ki_0 ?_
      exact RT.1 _ _ _ _ _ dX2_isCommand_21 rfl nar_0 (rd_i (bP_f (by unfold isC; omega))) rfl
    · refine r_iconst C dX2_isCommand_16 ki_1 ?_
      refine r_goto C 21 dX2_isCommand_17 (by decide) ?_
      exact RT.1 _ _ _ _ _ dX2_isCommand_21 rfl nar_1 (rd_i (bP_t (by show isC c; unfold isC; omega))) rfl
set_option maxRecDepth 100000 in
set_option maxHeartbeats 1000000 in
theorem c_X2_digitsBehind {l : Launch} {E : Ev} {b6 c6 sz : Nat} {tx : Nat → Int32} {sg : Nat → Nat} (hT : TxR sg sz tx) {i : Nat} (hi : i < sz) : Cr l E yX2_digitsBehind cX2_digitsBehind 2 (some FieldType.int) 2 40 [.ref b6, .int (nI i)] [(b6, .inr (2, [.ref c6, .int (nI sz)])), (c6, .inl (eI E, 120, .inl tx))] (some (.int (nI (nD (sg i))))) := by
  have hTz := hT.1
  refine ct_of (by decide +kernel) (Nat.le_of_ble_eq_true rfl) (fun ω C RT => ?_)
  show ω [(b6, .inr (2, [.ref c6, .int (nI sz)])), (c6, .inl (eI E, 120, .inl tx))] [(0, .ref b6), (1, .int (nI i))] [] 0
  refine r_aload_n C (i := 0) 0 dX2_digitsBehind_0 rfl rfl ?_
  refine r_iload_n C (i := 1) 1 dX2_digitsBehind_1 rfl rfl ?_
  refine r_readV (rest := []) C (c_X2_signAt (b6 := b6) (c6 := c6) (sz := sz) (tx := tx) (sg := sg) (i := i) (hT := hT) (hi := (by omega))) lk_X2_signAt w_1_180 [0, 1] rfl dX2_digitsBehind_2 rfl rfl rfl rfl ⟨by decide, by decide⟩ (Nat.le_of_ble_eq_true rfl) (st' := [.int (nI (sg i))]) rfl ?_
  have h256 := (hT.2 i hi).2
  have htl := tI_lt (sg i)
  refine r_readS (rest := []) C (c_X2_highestDigits (c := sg i) (hc := (by omega))) lk_X2_highestDigits w_1_187 [] dX2_digitsBehind_5 rfl rfl rfl ⟨by decide, by decide⟩ (Nat.le_of_ble_eq_true rfl) (st' := [.ref (E.2.2.1 (tI (sg i)))]) rfl ?_
  refine q_readT (rest := []) C (c_J0_length (i := tI (sg i)) (hi6 := (by omega))) lk_J0_length_8abf5 w_1_204 (by omega) rfl dX2_digitsBehind_8 rfl ⟨by decide, by decide⟩ (Nat.le_of_ble_eq_true rfl) (st' := [.int (nI (sN (tI (sg i))))]) rfl ?_
  exact RT.1 _ _ _ _ _ dX2_digitsBehind_11 rfl rfl (rd_i (congrArg nI (sN_tI _))) rfl
set_option maxRecDepth 100000 in
set_option maxHeartbeats 1000000 in
theorem c_X2_isDigitUpTo {l : Launch} {E : Ev} {b6 c6 sz : Nat} {tx : Nat → Int32} {sg : Nat → Nat} (hT : TxR sg sz tx) {at9 h : Nat} (ha : at9 < sz) (ha1 : 1 ≤ at9) (hh : h < 256) : Cr l E yX2_isDigitUpTo cX2_isDigitUpTo 4 (some FieldType.boolean) 1 21 [.ref b6, .int (nI at9), .int (nI h)] [(b6, .inr (2, [.ref c6, .int (nI sz)])), (c6, .inl (eI E, 120, .inl tx))] (some (.int (bP (48 ≤ sg at9 ∧ sg at9 ≤ lim h (sg (at9 - 1)))))) := by
  have hTz := hT.1
  have h2a := (hT.2 at9 ha).2
  have h2b := (hT.2 (at9 - 1) (by omega)).2
  refine ct_of (by decide +kernel) (Nat.le_of_ble_eq_true rfl) (fun ω C RT => ?_)
  show ω [(b6, .inr (2, [.ref c6, .int (nI sz)])), (c6, .inl (eI E, 120, .inl tx))] [(0, .ref b6), (1, .int (nI at9)), (2, .int (nI h))] [] 0
  refine r_iload_n C (i := 2) 2 dX2_isDigitUpTo_0 rfl rfl ?_
  refine r_istore_n C (lv' := [(3, .int (nI h)), (0, .ref b6), (1, .int (nI at9)), (2, .int (nI h))]) dX2_isDigitUpTo_1 rfl (by decide) rfl ?_
  have join28_1 : ∀ (x : Nat), (x = lim h (sg (at9 - 1))) → ω [(b6, .inr (2, [.ref c6, .int (nI sz)])), (c6, .inl (eI E, 120, .inl tx))] [(3, .int (nI x)), (0, .ref b6), (1, .int (nI at9)), (2, .int (nI h))] [] 28 := by
    intro x hx
    have hlm : lim h (sg (at9 - 1)) < 256 := by unfold lim; split <;> (try split) <;> omega
    refine r_aload_n C (i := 0) 1 dX2_isDigitUpTo_28 rfl rfl ?_
    refine r_iload_n C (i := 1) 2 dX2_isDigitUpTo_29 rfl rfl ?_
    refine r_readV (rest := []) C (c_X2_signAt (b6 := b6) (c6 := c6) (sz := sz) (tx := tx) (sg := sg) (i := at9) (hT := hT) (hi := (by omega))) lk_X2_signAt w_1_180 [0, 1] rfl dX2_isDigitUpTo_30 rfl rfl rfl rfl ⟨by decide, by decide⟩ (Nat.le_of_ble_eq_true rfl) (st' := [.int (nI (sg at9))]) rfl ?_
    refine r_bipush C dX2_isDigitUpTo_33 kb_48 ?_
    refine r_icmp_lt C (c9 := sg at9 < 48) 51 dX2_isDigitUpTo_35 (by decide) (c_ltNN (by omega) (by omega)) (fun h35_2 => ?_) (fun h35_2 => ?_)
    · refine r_iconst C dX2_isDigitUpTo_51 ki_0 ?_
      exact RT.1 _ _ _ _ _ dX2_isDigitUpTo_52 rfl nar_0 (rd_i (bP_f (by omega))) rfl
    · refine r_aload_n C (i := 0) 1 dX2_isDigitUpTo_38 rfl rfl ?_
      refine r_iload_n C (i := 1) 2 dX2_isDigitUpTo_39 rfl rfl ?_
      refine r_readV (rest := []) C (c_X2_signAt (b6 := b6) (c6 := c6) (sz := sz) (tx := tx) (sg := sg) (i := at9) (hT := hT) (hi := (by omega))) lk_X2_signAt w_1_180 [0, 1] rfl dX2_isDigitUpTo_40 rfl rfl rfl rfl ⟨by decide, by decide⟩ (Nat.le_of_ble_eq_true rfl) (st' := [.int (nI (sg at9))]) rfl ?_
      refine r_iload_n C (i := 3) 0 dX2_isDigitUpTo_43 rfl rfl ?_
      refine r_icmp_gt C (c9 := x < sg at9) 51 dX2_isDigitUpTo_44 (by decide) (c_ltNN (by omega) (by omega)) (fun h44_3 => ?_) (fun h44_3 => ?_)
      · refine r_iconst C dX2_isDigitUpTo_51 ki_0 ?_
        exact RT.1 _ _ _ _ _ dX2_isDigitUpTo_52 rfl nar_0 (rd_i (bP_f (by omega))) rfl
      · refine r_iconst C dX2_isDigitUpTo_47 ki_1 ?_
        refine r_goto C 52 dX2_isDigitUpTo_48 (by decide) ?_
        exact RT.1 _ _ _ _ _ dX2_isDigitUpTo_52 rfl nar_1 (rd_i (bP_t (by omega))) rfl
  refine r_iload_n C (i := 2) 3 dX2_isDigitUpTo_2 rfl rfl ?_
  refine r_bipush C dX2_isDigitUpTo_3 kb_104 ?_
  refine r_icmp_ne C (c9 := h ≠ 104) 28 dX2_isDigitUpTo_5 (by decide) (c_neNN (by omega) (by omega)) (fun h5_4 => ?_) (fun h5_4 => ?_)
  · exact join28_1 h (by unfold lim; split <;> (try split) <;> omega)
  · refine r_aload_n C (i := 0) 1 dX2_isDigitUpTo_8 rfl rfl ?_
    refine r_iload_n C (i := 1) 2 dX2_isDigitUpTo_9 rfl rfl ?_
    refine r_iconst C dX2_isDigitUpTo_10 ki_1 ?_
    refine r_isub (v := nI (at9 - 1)) C dX2_isDigitUpTo_11 (v_sub (by omega)) ?_
    refine r_readV (rest := []) C (c_X2_signAt (b6 := b6) (c6 := c6) (sz := sz) (tx := tx) (sg := sg) (i := at9 - 1) (hT := hT) (hi := (by omega))) lk_X2_signAt w_1_180 [0, 1] rfl dX2_isDigitUpTo_12 rfl rfl rfl rfl ⟨by decide, by decide⟩ (Nat.le_of_ble_eq_true rfl) (st' := [.int (nI (sg (at9 - 1)))]) rfl ?_
    refine r_bipush C dX2_isDigitUpTo_15 kb_50 ?_
    refine r_icmp_ne C (c9 := sg (at9 - 1) ≠ 50) 25 dX2_isDigitUpTo_17 (by decide) (c_neNN (by omega) (by omega)) (fun h17_5 => ?_) (fun h17_5 => ?_)
    · refine r_bipush C dX2_isDigitUpTo_25 kb_57 ?_
      refine r_istore_n C (lv' := [(3, .int (nI 57)), (0, .ref b6), (1, .int (nI at9)), (2, .int (nI h))]) dX2_isDigitUpTo_27 rfl (by decide) rfl ?_
      exact join28_1 57 (by unfold lim; split <;> (try split) <;> omega)
    · refine r_bipush C dX2_isDigitUpTo_20 kb_51 ?_
      refine r_goto C 27 dX2_isDigitUpTo_22 (by decide) ?_
      refine r_istore_n C (lv' := [(3, .int (nI 51)), (0, .ref b6), (1, .int (nI at9)), (2, .int (nI h))]) dX2_isDigitUpTo_27 rfl (by decide) rfl ?_
      exact join28_1 51 (by unfold lim; split <;> (try split) <;> omega)
theorem fb_y {sg : Nat → Nat} {sz i : Nat} (h : fk sg sz i ≠ nD (sg i)) : nI (i + 1 + fk sg sz i) = mI (fbN sg sz i) := by rw [fbN, if_neg h, mI_s]
set_option maxRecDepth 100000 in
set_option maxHeartbeats 1000000 in
theorem c_X2_faultBehind {l : Launch} {E : Ev} {b6 c6 sz : Nat} {tx : Nat → Int32} {sg : Nat → Nat} (hT : TxR sg sz tx) {i : Nat} (hi : i < sz) : Cr l E yX2_faultBehind cX2_faultBehind 5 (some FieldType.int) 5 106 [.ref b6, .int (nI i)] [(b6, .inr (2, [.ref c6, .int (nI sz)])), (c6, .inl (eI E, 120, .inl tx))] (some (.int (mI (fbN sg sz i)))) := by
  have hTz := hT.1
  refine ct_of (by decide +kernel) (Nat.le_of_ble_eq_true rfl) (fun ω C RT => ?_)
  show ω [(b6, .inr (2, [.ref c6, .int (nI sz)])), (c6, .inl (eI E, 120, .inl tx))] [(0, .ref b6), (1, .int (nI i))] [] 0
  refine r_aload_n C (i := 0) 0 dX2_faultBehind_0 rfl rfl ?_
  refine r_iload_n C (i := 1) 1 dX2_faultBehind_1 rfl rfl ?_
  refine r_readV (rest := []) C (c_X2_signAt (b6 := b6) (c6 := c6) (sz := sz) (tx := tx) (sg := sg) (i := i) (hT := hT) (hi := (by omega))) lk_X2_signAt w_1_180 [0, 1] rfl dX2_faultBehind_2 rfl rfl rfl rfl ⟨by decide, by decide⟩ (Nat.le_of_ble_eq_true rfl) (st' := [.int (nI (sg i))]) rfl ?_
  have h256 := (hT.2 i hi).2
  have htl := tI_lt (sg i)
  have hsn := sN_tI (sg i)
  have hnl := nD_le (sg i)
  refine r_readS (rest := []) C (c_X2_highestDigits (c := sg i) (hc := (by omega))) lk_X2_highestDigits w_1_187 [] dX2_faultBehind_5 rfl rfl rfl ⟨by decide, by decide⟩ (Nat.le_of_ble_eq_true rfl) (st' := [.ref (E.2.2.1 (tI (sg i)))]) rfl ?_
  refine r_astore_n C (lv' := [(2, .ref (E.2.2.1 (tI (sg i)))), (0, .ref b6), (1, .int (nI i))]) dX2_faultBehind_8 rfl (by decide) rfl ?_
  refine r_iconst C dX2_faultBehind_9 ki_0 ?_
  refine r_istore_n C (lv' := [(3, .int (nI 0)), (2, .ref (E.2.2.1 (tI (sg i)))), (0, .ref b6), (1, .int (nI i))]) dX2_faultBehind_10 rfl (by decide) rfl ?_
  have loop11_1 : ∀ (dd9 : Nat) (k : Nat), nD (sg i) - k < dd9 → (k ≤ nD (sg i)) → (∀ j, j < k → gd sg sz i j) → (i + k < sz) → ω [(b6, .inr (2, [.ref c6, .int (nI sz)])), (c6, .inl (eI E, 120, .inl tx))] [(3, .int (nI k)), (2, .ref (E.2.2.1 (tI (sg i)))), (0, .ref b6), (1, .int (nI i))] [] 11 := by
    intro dd9
    induction dd9 with
    | zero => intro k hd; exact absurd hd (Nat.not_lt_zero _)
    | succ dd9 ih2 =>
      intro k hd hk hg hpv
      refine r_iload_n C (i := 3) 0 dX2_faultBehind_11 rfl rfl ?_
      refine r_aload_n C (i := 2) 1 dX2_faultBehind_12 rfl rfl ?_
      refine q_readT (rest := [.int (nI k)]) C (c_J0_length (i := tI (sg i)) (hi6 := (by omega))) lk_J0_length_8abf5 w_1_204 (by omega) rfl dX2_faultBehind_13 rfl ⟨by decide, by decide⟩ (Nat.le_of_ble_eq_true rfl) (st' := [.int (nI (sN (tI (sg i)))), .int (nI k)]) rfl ?_
      refine r_icmp_ge C (c9 := sN (tI (sg i)) ≤ k) 63 dX2_faultBehind_16 (by decide) (c_leNN (by omega) (by omega)) (fun h16_3 => ?_) (fun h16_3 => ?_)
      · refine r_iconst C dX2_faultBehind_63 ki_m1 ?_
        exact RT.1 _ _ _ _ _ dX2_faultBehind_64 rfl rfl (rd_i (congrArg mI (show 0 = fbN sg sz i from by rw [fbN, if_pos (fk_all (fun j hj => hg j (by omega)))]))) rfl
      · refine r_iload_n C (i := 1) 3 dX2_faultBehind_19 rfl rfl ?_
        refine r_iconst C dX2_faultBehind_20 ki_1 ?_
        refine r_iadd (v := nI (i + 1)) C dX2_faultBehind_21 (nI_add _ _) ?_
        refine r_iload_n C (i := 3) 0 dX2_faultBehind_22 rfl rfl ?_
        refine r_iadd (v := nI ((i + 1) + k)) C dX2_faultBehind_23 (nI_add _ _) ?_
        refine r_istore C (lv' := [(4, .int (nI ((i + 1) + k))), (3, .int (nI k)), (2, .ref (E.2.2.1 (tI (sg i)))), (0, .ref b6), (1, .int (nI i))]) dX2_faultBehind_24 (by decide) rfl ?_
        refine r_iload C (i := 4) 0 dX2_faultBehind_26 rfl ?_
        refine r_aload_n C (i := 0) 3 dX2_faultBehind_28 rfl rfl ?_
        refine r_get C 0 1 uX2 rfl rfl (by decide) w_1_67 rfl dX2_faultBehind_29 ?_
        refine r_icmp_lt C (c9 := (i + 1) + k < sz) 40 dX2_faultBehind_32 (by decide) (c_ltNN (by omega) (by omega)) (fun h32_4 => ?_) (fun h32_4 => ?_)
        · refine r_aload_n C (i := 0) 3 dX2_faultBehind_40 rfl rfl ?_
          refine r_iload C (i := 4) 0 dX2_faultBehind_41 rfl ?_
          refine r_aload_n C (i := 2) 2 dX2_faultBehind_43 rfl rfl ?_
          refine r_iload_n C (i := 3) 1 dX2_faultBehind_44 rfl rfl ?_
          have hch := (sCh_e _ htl k (by omega)).2
          have hlh := lim_hi (p := sg (i + k)) (show k < nD (sg i) by omega)
          refine q_readT (rest := [.int (nI ((i + 1) + k)), .ref b6]) C (c_J0_charAt (i := tI (sg i)) (k := k) (hi6 := (by omega)) (hk := (by omega))) lk_J0_charAt_5068e w_1_214 (by omega) rfl dX2_faultBehind_45 rfl ⟨by decide, by decide⟩ (Nat.le_of_ble_eq_true rfl) (st' := [.int (nI (sCh (tI (sg i)) k)), .int (nI ((i + 1) + k)), .ref b6]) rfl ?_
          refine r_readV (rest := []) C (c_X2_isDigitUpTo (b6 := b6) (c6 := c6) (sz := sz) (tx := tx) (sg := sg) (at9 := (i + 1) + k) (h := sCh (tI (sg i)) k) (hT := hT) (ha := (by omega)) (ha1 := (by omega)) (hh := (by omega))) lk_X2_isDigitUpTo w_2_12 [0, 1] rfl dX2_faultBehind_48 rfl rfl rfl rfl ⟨by decide, by decide⟩ (Nat.le_of_ble_eq_true rfl) (st' := [.int (bP (48 ≤ sg ((i + 1) + k) ∧ sg ((i + 1) + k) ≤ lim (sCh (tI (sg i)) k) (sg (((i + 1) + k) - 1))))]) rfl ?_
          have ha1 : i + 1 + k - 1 = i + k := by omega
          refine r_if_ne C (y := 0) (c9 := 48 ≤ sg ((i + 1) + k) ∧ sg ((i + 1) + k) ≤ lim (sCh (tI (sg i)) k) (sg (((i + 1) + k) - 1))) 57 dX2_faultBehind_51 (by decide) z_neB (fun h51_5 => ?_) (fun h51_5 => ?_)
          · refine r_iinc C (lv' := [(3, .int (nI (k + 1))), (4, .int (nI ((i + 1) + k))), (2, .ref (E.2.2.1 (tI (sg i)))), (0, .ref b6), (1, .int (nI i))]) (v := nI (k + 1)) 1 dX2_faultBehind_57 rfl (v_inc _) (by decide) rfl ?_
            refine r_goto C 11 dX2_faultBehind_60 (by decide) ?_
            refine r_lv (lv' := [(3, .int (nI (k + 1))), (2, .ref (E.2.2.1 (tI (sg i)))), (0, .ref b6), (1, .int (nI i))]) C [0, 2, 3, 4] rfl ?_
            exact ih2 (k + 1) (by omega) (by omega) (lt_step hg ⟨by omega, by rw [← hlh, ← ha1]; exact h51_5⟩) (by omega)
          · refine r_iload C (i := 4) 0 dX2_faultBehind_54 rfl ?_
            exact RT.1 _ _ _ _ _ dX2_faultBehind_56 rfl rfl (rd_i ((congrArg nI (show i + 1 + k = i + 1 + fk sg sz i from by rw [fk_at (by omega) (fun z => h51_5 (by rw [ha1, hlh]; exact z.2)) hg])).trans (fb_y (by rw [fk_at (by omega) (fun z => h51_5 (by rw [ha1, hlh]; exact z.2)) hg]; omega)))) rfl
        · refine r_aload_n C (i := 0) 3 dX2_faultBehind_35 rfl rfl ?_
          refine r_get C 0 1 uX2 rfl rfl (by decide) w_1_67 rfl dX2_faultBehind_36 ?_
          exact RT.1 _ _ _ _ _ dX2_faultBehind_39 rfl rfl (rd_i ((congrArg nI (show sz = i + 1 + fk sg sz i from by rw [fk_at (by omega) (fun z => by have := z.1; omega) hg]; omega)).trans (fb_y (by rw [fk_at (by omega) (fun z => by have := z.1; omega) hg]; omega)))) rfl
  exact loop11_1 _ 0 (Nat.lt_succ_self _) (by omega) (fun j hj => absurd hj (Nat.not_lt_zero j)) (by omega)
