theorem c_X6_command__all {l : Launch} {E : Ev} {hM rf x1 sz x3 x4 x5 ac x7 x8 x9 x10 x11 sp ou : Nat} {t1 t2 t3 : Nat → Int32} {g : Nat → Int32} {σ : Sg} (hR : RepM σ g) (hW : Wf σ) {how four : Nat} (hh : how < 10) (hf : four < 10000) : Ct l E yX6_command cX6_command 9 (some FieldType.boolean) 5 123 [.ref hM, .int (nI how), .int (nI four)] [(hM, .inr (6, [.int (nI rf), .ref x1, .int (nI sz), .ref x3, .ref x4, .ref x5, .int (nI ac), .ref x7, .ref x8, .ref x9, .ref x10, .ref x11, .int (nI sp), .int (nI ou)])), (x9, .inl (eI E, 6, .inl t1)), (x10, .inl (eI E, 6, .inl t2)), (x11, .inl (eI E, 6, .inl t3)), (x4, .inl (eI E, 255, .inl g))] (fun v9 w9 => ∃ ta tb tc g2 : Nat → Int32, v9 = some (.int (nI (cmN σ how four))) ∧ w9 = [(hM, .inr (6, [.int (nI rf), .ref x1, .int (nI sz), .ref x3, .ref x4, .ref x5, .int (nI ac), .ref x7, .ref x8, .ref x9, .ref x10, .ref x11, .int (nI sp), .int (nI ou)])), (x9, .inl (eI E, 6, .inl ta)), (x10, .inl (eI E, 6, .inl tb)), (x11, .inl (eI E, 6, .inl tc)), (x4, .inl (eI E, 255, .inl g2))] ∧ RepM (cmS σ how four) g2) := by
  rcases (by omega : how = 0 ∨ how = 1 ∨ how = 2 ∨ how = 3 ∨ how = 4 ∨ how = 5 ∨ how = 6 ∨ how = 7 ∨ how = 8 ∨ how = 9) with rfl | rfl | rfl | rfl | rfl | rfl | rfl | rfl | rfl | rfl
  · exact c_X6_command__0 hR hW hf
  · exact c_X6_command__1 hR hW hf
  · exact c_X6_command__2 hR hW hf
  · exact c_X6_command__3 hR hW hf
  · exact c_X6_command__4 hR hW hf
  · exact c_X6_command__5 hR hW hf
  · exact c_X6_command__6 hR hW hf
  · exact c_X6_command__7 hR hW hf
  · exact c_X6_command__8 hR hW hf
  · exact c_X6_command__9 hR hW hf
abbrev vJ (x : Int32) (h : Nat) : Prop := 1 ≤ x.toInt ∧ x.toInt ≤ (h : Int)
theorem in_1N {i h : Nat} (hi : i < 2147483648) (hh : h < 2147483648) : (lN 1 ≤ lN i ∧ lN i ≤ lN h) ↔ 1 ≤ i ∧ i ≤ h := by
  rw [lN_le (by decide) hi, lN_le hi hh]
theorem in_1r {x : Int32} {h : Nat} (hh : h < 2147483648) : (lN 1 ≤ x.toInt64 ∧ x.toInt64 ≤ lN h) ↔ vJ x h := by
  rw [Int64.le_iff_toInt_le, Int64.le_iff_toInt_le, tl32, lN_toInt hh, lN_toInt (by decide)]; exact Iff.rfl
theorem in_NB {i h : Nat} (hi : i < 2 ^ 63) (hh : h < 2 ^ 63) : (lN 0 ≤ lN i ∧ lN i ≤ lN h) ↔ i ≤ h := by
  rw [pk_lLE (by decide) hi, pk_lLE hi hh]; omega
abbrev gk (S n k : Nat) : Nat := S / 100000 ^ (n - 1 - k) % 100000
def stS (σ : Sg) (S n : Nat) : Nat → Sg
  | 0 => σ
  | k + 1 => cmS (stS σ S n k) (gk S n k / 10000) (gk S n k % 10000)
theorem stS_wf {σ : Sg} (hW : Wf σ) (S n : Nat) : ∀ k, Wf (stS σ S n k)
  | 0 => hW
  | k + 1 => cmS_wf (stS_wf hW S n k) _ _
def srB (σ : Sg) (S n : Nat) (k : Nat) : Bool := decide (cmN (stS σ S n k) (gk S n k / 10000) (gk S n k % 10000) = 0)
def srN (σ : Sg) (S n : Nat) : Nat := if fa_first (srB σ S n) n < n then fa_first (srB σ S n) n + 1 else 0
theorem srN_y {σ : Sg} {S n k : Nat} (hk : k < n) (h : srB σ S n k = true) (h0 : ∀ j, j < k → srB σ S n j = false) : srN σ S n = k + 1 := by
  unfold srN; rw [fa_first_at hk h h0, if_pos hk]
theorem srN_n {σ : Sg} {S n : Nat} (h0 : ∀ j, j < n → srB σ S n j = false) : srN σ S n = 0 := by
  unfold srN
  rw [if_neg]
  intro z
  have := fa_first_yes (srB σ S n) n z
  rw [h0 _ z] at this; cases this
theorem p5 {m : Nat} (h : m ≤ 3) : 0 < 100000 ^ m ∧ 100000 ^ m ≤ 1000000000000000 := ⟨Nat.pow_pos (by decide), Nat.le_trans (Nat.pow_le_pow_right (by decide) h) (by decide)⟩
theorem p5d {n k : Nat} (h : k < n) : 100000 ^ (n - k) / 100000 = 100000 ^ (n - 1 - k) := by
  rw [show n - k = n - 1 - k + 1 from by omega, Nat.pow_succ, Nat.mul_div_cancel _ (by decide)]
def tuS (σ : Sg) (x : Nat) : Sg :=
  if x % 8 < 2 then tCast σ (x / 8 % 6) (x / 8 / 6 % 10 + 1) (x / 8 / 64 % 20)
  else if x % 8 = 2 then tStudy σ (x / 8 % 6) (x / 8 / 6 % 10)
  else if x % 8 < 6 then tIll σ (x / 8 % 10) (x / 8 / 16 % 20) (if 0 < x / 8 / 512 % 3 then 1 else 0)
  else if x % 8 = 6 then tSlip σ (x / 8 % 20) (x / 8 / 32 % 6) (x / 8 / 256 % 10) (x / 8 / 4096 % 24)
  else tLose σ (x / 8 % 20)
theorem tuS_wf {σ : Sg} (hW : Wf σ) (x : Nat) : Wf (tuS σ x) := by
  unfold tuS
  split; exact tCast_wf hW
  split; exact tStudy_wf hW
  split; exact tIll_wf hW (by split <;> omega)
  split; exact tSlip_wf hW
  exact tLose_wf hW
def lcg (x : Int64) : Int64 := x * 6364136223846793005 + 1442695040888963407
def sx (x : Int64) : Nat → Int64
  | 0 => x
  | k + 1 => lcg (sx x k)
def hi31 (x : Int64) : Nat := x.toUInt64.toNat / 2 ^ 33
theorem hi31_lt (x : Int64) : hi31 x < 2147483648 := by
  unfold hi31
  have := x.toUInt64.toNat_lt
  omega
def siS (σ : Sg) (x : Int64) : Nat → Sg
  | 0 => σ
  | k + 1 => tuS (siS σ x k) (hi31 (sx x (k + 1)))
theorem siS_wf {σ : Sg} (hW : Wf σ) (x : Int64) : ∀ k, Wf (siS σ x k)
  | 0 => hW
  | k + 1 => tuS_wf (siS_wf hW x k) _
theorem u_lN (u : UInt64) : u.toInt64 = lN u.toNat := by
  apply Int64.toBitVec_inj.mp
  apply BitVec.eq_of_toNat_eq
  show u.toNat = (BitVec.ofNat 64 u.toNat).toNat
  rw [BitVec.toNat_ofNat, Nat.mod_eq_of_lt u.toNat_lt]
theorem hi31_e (x : Int64) : ((x.toUInt64 >>> ((nI 33).toInt64.toUInt64 &&& Int64.toUInt64 63)).toInt64).toInt32 = nI (hi31 x) := by
  rw [u_lN, lN_i, UInt64.toNat_shiftRight, show (((nI 33).toInt64.toUInt64 &&& Int64.toUInt64 63)).toNat % 64 = 33 from by decide, Nat.shiftRight_eq_div_pow]; rfl
set_option maxRecDepth 100000 in
set_option maxHeartbeats 1000000 in
theorem c_X6_turn {l : Launch} {E : Ev} {r : Nat} {g : Nat → Int32} {σ : Sg} (hR : RepM σ g) (hW : Wf σ) {x : Nat} (hx : x < 2147483648) : Ct l E yX6_turn cX6_turn 4 none 3 69 [.ref r, .int (nI x)] [(r, .inl (eI E, 255, .inl g))] (fun v9 w9 => ∃ g2 : Nat → Int32, v9 = none ∧ w9 = [(r, .inl (eI E, 255, .inl g2))] ∧ RepM (tuS σ x) g2) := by
  have hwP := hW.P
  have hwA := hW.A
  have hwS := hW.S
  refine ct_of (by decide +kernel) (Nat.le_of_ble_eq_true rfl) (fun ω C RT => ?_)
  show ω [(r, .inl (eI E, 255, .inl g))] [(0, .ref r), (1, .int (nI x))] [] 0
  refine r_iload_n C (i := 1) 1 dX6_turn_0 rfl rfl ?_
  refine r_bipush C dX6_turn_1 kb_8 ?_
  refine r_idiv (v := nI (x / 8)) C dX6_turn_3 (v_nz (by omega) (by omega)) (v_div (by omega) (by omega) (by omega)) ?_
  refine r_istore_n C (lv' := [(2, .int (nI (x / 8))), (0, .ref r), (1, .int (nI x))]) dX6_turn_4 rfl (by decide) rfl ?_
  refine r_iload_n C (i := 1) 2 dX6_turn_5 rfl rfl ?_
  refine r_bipush C dX6_turn_6 kb_8 ?_
  refine r_irem (v := nI (x % 8)) C dX6_turn_8 (v_nz (by omega) (by omega)) (v_rem (by omega) (by omega) (by omega)) ?_
  refine r_istore_n C (lv' := [(3, .int (nI (x % 8))), (2, .int (nI (x / 8))), (0, .ref r), (1, .int (nI x))]) dX6_turn_9 rfl (by decide) rfl ?_
  refine r_iload_n C (i := 3) 0 dX6_turn_10 rfl rfl ?_
  refine r_iconst C dX6_turn_11 ki_2 ?_
  refine r_icmp_ge C (c9 := 2 ≤ x % 8) 66 dX6_turn_12 (by decide) (c_leNN (by omega) (by omega)) (fun h12_1 => ?_) (fun h12_1 => ?_)
  · refine r_iload_n C (i := 3) 0 dX6_turn_66 rfl rfl ?_
    refine r_iconst C dX6_turn_67 ki_2 ?_
    refine r_icmp_ne C (c9 := x % 8 ≠ 2) 108 dX6_turn_68 (by decide) (c_neNN (by omega) (by omega)) (fun h68_2 => ?_) (fun h68_2 => ?_)
    · refine r_iload_n C (i := 3) 0 dX6_turn_108 rfl rfl ?_
      refine r_bipush C dX6_turn_109 kb_6 ?_
      refine r_icmp_ge C (c9 := 6 ≤ x % 8) 159 dX6_turn_111 (by decide) (c_leNN (by omega) (by omega)) (fun h111_3 => ?_) (fun h111_3 => ?_)
      · refine r_iload_n C (i := 3) 0 dX6_turn_159 rfl rfl ?_
        refine r_bipush C dX6_turn_160 kb_6 ?_
        refine r_icmp_ne C (c9 := x % 8 ≠ 6) 226 dX6_turn_162 (by decide) (c_neNN (by omega) (by omega)) (fun h162_4 => ?_) (fun h162_4 => ?_)
        · refine r_aload_n C (i := 0) 2 dX6_turn_226 rfl rfl ?_
          refine r_iload_n C (i := 2) 1 dX6_turn_227 rfl rfl ?_
          refine r_bipush C dX6_turn_228 kb_20 ?_
          refine r_irem (v := nI ((x / 8) % 20)) C dX6_turn_230 (v_nz (by omega) (by omega)) (v_rem (by omega) (by omega) (by omega)) ?_
          refine r_readS (rest := []) C (c_X6_isSlip (r := r) (g := g) (σ := σ) (i := (x / 8) % 20) (hR := hR) (hW := hW) (hi := (by omega))) lk_X6_isSlip w_6_43 [0] dX6_turn_231 rfl rfl rfl ⟨by decide, by decide⟩ (Nat.le_of_ble_eq_true rfl) (st' := [.int (bP (((x / 8) % 20) < sS σ))]) rfl ?_
          refine r_if_eq C (y := 0) (c9 := ¬ (((x / 8) % 20) < sS σ)) 246 dX6_turn_234 (by decide) z_eqB (fun h234_5 => ?_) (fun h234_5 => ?_)
          · exact RT.2.2.1 _ _ _ dX6_turn_246 rfl (⟨_, rfl, rfl, by unfold tuS; rw [if_neg (by omega), if_neg (by omega), if_neg (by omega), if_neg (by omega)]; unfold tLose; rw [if_neg (show ¬ (x / 8 % 20 < sS σ) by omega)]; exact hR⟩) rfl
          · replace h234_5 : ((x / 8) % 20) < sS σ := Decidable.not_not.mp h234_5
            refine r_aload_n C (i := 0) 2 dX6_turn_237 rfl rfl ?_
            refine r_iload_n C (i := 2) 1 dX6_turn_238 rfl rfl ?_
            refine r_bipush C dX6_turn_239 kb_20 ?_
            refine r_irem (v := nI ((x / 8) % 20)) C dX6_turn_241 (v_nz (by omega) (by omega)) (v_rem (by omega) (by omega) (by omega)) ?_
            refine r_callS (rest := []) C (c_X6_loseOn (r := r) (g := g) (σ := σ) (k := (x / 8) % 20) (hR := hR) (hW := hW) (hk := (by omega))) lk_X6_loseOn w_6_90 [0] dX6_turn_242 rfl rfl rfl ⟨by decide, by decide⟩ (Nat.le_of_ble_eq_true rfl) ?_
            rintro _ _ ⟨g_6, rfl, rfl, hR_7⟩
            have hW_8 : Wf (oLose σ ((x / 8) % 20)) := oLose_wf hW
            show ω [(r, .inl (eI E, 255, .inl g_6))] [(3, .int (nI (x % 8))), (2, .int (nI (x / 8))), (0, .ref r), (1, .int (nI x))] [.int (nI (sS σ - 1))] 245
            refine r_pop C dX6_turn_245 rfl ?_
            exact RT.2.2.1 _ _ _ dX6_turn_246 rfl (⟨_, rfl, rfl, by unfold tuS; rw [if_neg (by omega), if_neg (by omega), if_neg (by omega), if_neg (by omega)]; unfold tLose; rw [if_pos (show x / 8 % 20 < sS σ by omega)]; exact hR_7⟩) rfl
        · refine r_aload_n C (i := 0) 2 dX6_turn_165 rfl rfl ?_
          refine r_iload_n C (i := 2) 1 dX6_turn_166 rfl rfl ?_
          refine r_bipush C dX6_turn_167 kb_20 ?_
          refine r_irem (v := nI ((x / 8) % 20)) C dX6_turn_169 (v_nz (by omega) (by omega)) (v_rem (by omega) (by omega) (by omega)) ?_
          refine r_iload_n C (i := 2) 1 dX6_turn_170 rfl rfl ?_
          refine r_bipush C dX6_turn_171 kb_32 ?_
          refine r_idiv (v := nI ((x / 8) / 32)) C dX6_turn_173 (v_nz (by omega) (by omega)) (v_div (by omega) (by omega) (by omega)) ?_
          refine r_bipush C dX6_turn_174 kb_6 ?_
          refine r_irem (v := nI (((x / 8) / 32) % 6)) C dX6_turn_176 (v_nz (by omega) (by omega)) (v_rem (by omega) (by omega) (by omega)) ?_
          refine r_iload_n C (i := 2) 1 dX6_turn_177 rfl rfl ?_
          refine r_sipush C dX6_turn_178 ks_256 ?_
          refine r_idiv (v := nI ((x / 8) / 256)) C dX6_turn_181 (v_nz (by omega) (by omega)) (v_div (by omega) (by omega) (by omega)) ?_
          refine r_bipush C dX6_turn_182 kb_10 ?_
          refine r_irem (v := nI (((x / 8) / 256) % 10)) C dX6_turn_184 (v_nz (by omega) (by omega)) (v_rem (by omega) (by omega) (by omega)) ?_
          refine r_readS (rest := []) C (c_X6_canSlip (r := r) (g := g) (σ := σ) (n := (x / 8) % 20) (p := ((x / 8) / 32) % 6) (a := ((x / 8) / 256) % 10) (hR := hR) (hW := hW) (hn := (by omega)) (hp := (by omega)) (ha := (by omega))) lk_X6_canSlip w_5_182 [0] dX6_turn_185 rfl rfl rfl ⟨by decide, by decide⟩ (Nat.le_of_ble_eq_true rfl) (st' := [.int (bP (((x / 8) % 20) < 20 ∧ (((x / 8) / 32) % 6) < sP σ ∧ (((x / 8) / 256) % 10) < sA σ ∧ sS σ < 20))]) rfl ?_
          refine r_if_eq C (y := 0) (c9 := ¬ (((x / 8) % 20) < 20 ∧ (((x / 8) / 32) % 6) < sP σ ∧ (((x / 8) / 256) % 10) < sA σ ∧ sS σ < 20)) 246 dX6_turn_188 (by decide) z_eqB (fun h188_9 => ?_) (fun h188_9 => ?_)
          · exact RT.2.2.1 _ _ _ dX6_turn_246 rfl (⟨_, rfl, rfl, by unfold tuS; rw [if_neg (by omega), if_neg (by omega), if_neg (by omega), if_pos (by omega)]; unfold tSlip; rw [if_neg (show ¬ (x / 8 % 20 < 20 ∧ x / 8 / 32 % 6 < sP σ ∧ x / 8 / 256 % 10 < sA σ ∧ x / 8 / 4096 % 24 < 24 ∧ sS σ < 20) by omega)]; exact hR⟩) rfl
          · replace h188_9 : ((x / 8) % 20) < 20 ∧ (((x / 8) / 32) % 6) < sP σ ∧ (((x / 8) / 256) % 10) < sA σ ∧ sS σ < 20 := Decidable.not_not.mp h188_9
            refine r_aload_n C (i := 0) 2 dX6_turn_191 rfl rfl ?_
            refine r_iload_n C (i := 2) 1 dX6_turn_192 rfl rfl ?_
            refine r_bipush C dX6_turn_193 kb_20 ?_
            refine r_irem (v := nI ((x / 8) % 20)) C dX6_turn_195 (v_nz (by omega) (by omega)) (v_rem (by omega) (by omega) (by omega)) ?_
            refine r_iload_n C (i := 2) 1 dX6_turn_196 rfl rfl ?_
            refine r_bipush C dX6_turn_197 kb_32 ?_
            refine r_idiv (v := nI ((x / 8) / 32)) C dX6_turn_199 (v_nz (by omega) (by omega)) (v_div (by omega) (by omega) (by omega)) ?_
            refine r_bipush C dX6_turn_200 kb_6 ?_
            refine r_irem (v := nI (((x / 8) / 32) % 6)) C dX6_turn_202 (v_nz (by omega) (by omega)) (v_rem (by omega) (by omega) (by omega)) ?_
            refine r_iload_n C (i := 2) 1 dX6_turn_203 rfl rfl ?_
            refine r_sipush C dX6_turn_204 ks_256 ?_
            refine r_idiv (v := nI ((x / 8) / 256)) C dX6_turn_207 (v_nz (by omega) (by omega)) (v_div (by omega) (by omega) (by omega)) ?_
            refine r_bipush C dX6_turn_208 kb_10 ?_
            refine r_irem (v := nI (((x / 8) / 256) % 10)) C dX6_turn_210 (v_nz (by omega) (by omega)) (v_rem (by omega) (by omega) (by omega)) ?_
            refine r_iload_n C (i := 2) 1 dX6_turn_211 rfl rfl ?_
            refine r_sipush C dX6_turn_212 ks_4096 ?_
            refine r_idiv (v := nI ((x / 8) / 4096)) C dX6_turn_215 (v_nz (by omega) (by omega)) (v_div (by omega) (by omega) (by omega)) ?_
            refine r_bipush C dX6_turn_216 kb_24 ?_
            refine r_irem (v := nI (((x / 8) / 4096) % 24)) C dX6_turn_218 (v_nz (by omega) (by omega)) (v_rem (by omega) (by omega) (by omega)) ?_
            refine r_callS (rest := []) C (c_X6_slipOn (r := r) (g := g) (σ := σ) (n := (x / 8) % 20) (p := ((x / 8) / 32) % 6) (a := ((x / 8) / 256) % 10) (x := ((x / 8) / 4096) % 24) (hR := hR) (hW := hW) (hn := (by omega)) (hp := (by omega)) (ha := (by omega)) (hx := (by omega)) (hS := (by omega))) lk_X6_slipOn w_5_189 [0] dX6_turn_219 rfl rfl rfl ⟨by decide, by decide⟩ (Nat.le_of_ble_eq_true rfl) ?_
            rintro _ _ ⟨g_10, rfl, rfl, hR_11⟩
            have hW_12 : Wf (oSlip σ ((x / 8) % 20) (((x / 8) / 32) % 6) (((x / 8) / 256) % 10) (((x / 8) / 4096) % 24)) := oSlip_wf hW (by omega) (by omega) (by omega) (by omega) (by omega)
            show ω [(r, .inl (eI E, 255, .inl g_10))] [(3, .int (nI (x % 8))), (2, .int (nI (x / 8))), (0, .ref r), (1, .int (nI x))] [.int (nI (sS σ))] 222
            refine r_pop C dX6_turn_222 rfl ?_
            refine r_goto C 246 dX6_turn_223 (by decide) ?_
            exact RT.2.2.1 _ _ _ dX6_turn_246 rfl (⟨_, rfl, rfl, by unfold tuS; rw [if_neg (by omega), if_neg (by omega), if_neg (by omega), if_pos (by omega)]; unfold tSlip; rw [if_pos (show x / 8 % 20 < 20 ∧ x / 8 / 32 % 6 < sP σ ∧ x / 8 / 256 % 10 < sA σ ∧ x / 8 / 4096 % 24 < 24 ∧ sS σ < 20 by omega)]; exact hR_11⟩) rfl
      · refine r_aload_n C (i := 0) 2 dX6_turn_114 rfl rfl ?_
        refine r_iload_n C (i := 2) 1 dX6_turn_115 rfl rfl ?_
        refine r_bipush C dX6_turn_116 kb_10 ?_
        refine r_irem (v := nI ((x / 8) % 10)) C dX6_turn_118 (v_nz (by omega) (by omega)) (v_rem (by omega) (by omega) (by omega)) ?_
        refine r_readS (rest := []) C (c_X6_isActor (r := r) (g := g) (σ := σ) (i := (x / 8) % 10) (hR := hR) (hW := hW) (hi := (by omega))) lk_X6_isActor w_5_154 [0] dX6_turn_119 rfl rfl rfl ⟨by decide, by decide⟩ (Nat.le_of_ble_eq_true rfl) (st' := [.int (bP (((x / 8) % 10) < sA σ))]) rfl ?_
        refine r_if_eq C (y := 0) (c9 := ¬ (((x / 8) % 10) < sA σ)) 246 dX6_turn_122 (by decide) z_eqB (fun h122_13 => ?_) (fun h122_13 => ?_)
        · exact RT.2.2.1 _ _ _ dX6_turn_246 rfl (⟨_, rfl, rfl, by unfold tuS; rw [if_neg (by omega), if_neg (by omega), if_pos (by omega)]; unfold tIll; rw [if_neg (show ¬ (x / 8 % 10 < sA σ ∧ x / 8 / 16 % 20 < 20) by omega)]; exact hR⟩) rfl
        · replace h122_13 : ((x / 8) % 10) < sA σ := Decidable.not_not.mp h122_13
          refine r_aload_n C (i := 0) 2 dX6_turn_125 rfl rfl ?_
          refine r_iload_n C (i := 2) 1 dX6_turn_126 rfl rfl ?_
          refine r_bipush C dX6_turn_127 kb_10 ?_
          refine r_irem (v := nI ((x / 8) % 10)) C dX6_turn_129 (v_nz (by omega) (by omega)) (v_rem (by omega) (by omega) (by omega)) ?_
          refine r_iload_n C (i := 2) 1 dX6_turn_130 rfl rfl ?_
          refine r_bipush C dX6_turn_131 kb_16 ?_
          refine r_idiv (v := nI ((x / 8) / 16)) C dX6_turn_133 (v_nz (by omega) (by omega)) (v_div (by omega) (by omega) (by omega)) ?_
          refine r_bipush C dX6_turn_134 kb_20 ?_
          refine r_irem (v := nI (((x / 8) / 16) % 20)) C dX6_turn_136 (v_nz (by omega) (by omega)) (v_rem (by omega) (by omega) (by omega)) ?_
          refine r_iload_n C (i := 2) 1 dX6_turn_137 rfl rfl ?_
          refine r_sipush C dX6_turn_138 ks_512 ?_
          refine r_idiv (v := nI ((x / 8) / 512)) C dX6_turn_141 (v_nz (by omega) (by omega)) (v_div (by omega) (by omega) (by omega)) ?_
          refine r_iconst C dX6_turn_142 ki_3 ?_
          refine r_irem (v := nI (((x / 8) / 512) % 3)) C dX6_turn_143 (v_nz (by omega) (by omega)) (v_rem (by omega) (by omega) (by omega)) ?_
          refine r_if_le C (y := 0) (c9 := ((x / 8) / 512) % 3 = 0) 151 dX6_turn_144 (by decide) (z_leN (by omega)) (fun h144_14 => ?_) (fun h144_14 => ?_)
          · refine r_iconst C dX6_turn_151 ki_0 ?_
            refine r_callS (rest := []) C (c_X6_illOn (r := r) (g := g) (σ := σ) (a := (x / 8) % 10) (n := ((x / 8) / 16) % 20) (b := 0) (hR := hR) (hW := hW) (ha := (by omega)) (hn := (by omega)) (hb := (by omega))) lk_X6_illOn w_5_172 [0] dX6_turn_152 rfl rfl rfl ⟨by decide, by decide⟩ (Nat.le_of_ble_eq_true rfl) ?_
            rintro _ _ ⟨g_15, rfl, rfl, hR_16⟩
            have hW_17 : Wf (oIll σ ((x / 8) % 10) (((x / 8) / 16) % 20) 0) := oIll_wf hW (by omega) (by omega)
            show ω [(r, .inl (eI E, 255, .inl g_15))] [(3, .int (nI (x % 8))), (2, .int (nI (x / 8))), (0, .ref r), (1, .int (nI x))] [.int (nI (cntI (oIll σ ((x / 8) % 10) (((x / 8) / 16) % 20) 0) ((x / 8) % 10) 20))] 155
            refine r_pop C dX6_turn_155 rfl ?_
            refine r_goto C 246 dX6_turn_156 (by decide) ?_
            exact RT.2.2.1 _ _ _ dX6_turn_246 rfl (⟨_, rfl, rfl, by unfold tuS; rw [if_neg (by omega), if_neg (by omega), if_pos (by omega)]; unfold tIll; rw [if_pos (show x / 8 % 10 < sA σ ∧ x / 8 / 16 % 20 < 20 by omega)]; rw [if_neg (by omega)]; exact hR_16⟩) rfl
          · refine r_iconst C dX6_turn_147 ki_1 ?_
            refine r_goto C 152 dX6_turn_148 (by decide) ?_
            refine r_callS (rest := []) C (c_X6_illOn (r := r) (g := g) (σ := σ) (a := (x / 8) % 10) (n := ((x / 8) / 16) % 20) (b := 1) (hR := hR) (hW := hW) (ha := (by omega)) (hn := (by omega)) (hb := (by omega))) lk_X6_illOn w_5_172 [0] dX6_turn_152 rfl rfl rfl ⟨by decide, by decide⟩ (Nat.le_of_ble_eq_true rfl) ?_
            rintro _ _ ⟨g_18, rfl, rfl, hR_19⟩
            have hW_20 : Wf (oIll σ ((x / 8) % 10) (((x / 8) / 16) % 20) 1) := oIll_wf hW (by omega) (by omega)
            show ω [(r, .inl (eI E, 255, .inl g_18))] [(3, .int (nI (x % 8))), (2, .int (nI (x / 8))), (0, .ref r), (1, .int (nI x))] [.int (nI (cntI (oIll σ ((x / 8) % 10) (((x / 8) / 16) % 20) 1) ((x / 8) % 10) 20))] 155
            refine r_pop C dX6_turn_155 rfl ?_
            refine r_goto C 246 dX6_turn_156 (by decide) ?_
            exact RT.2.2.1 _ _ _ dX6_turn_246 rfl (⟨_, rfl, rfl, by unfold tuS; rw [if_neg (by omega), if_neg (by omega), if_pos (by omega)]; unfold tIll; rw [if_pos (show x / 8 % 10 < sA σ ∧ x / 8 / 16 % 20 < 20 by omega)]; rw [if_pos (by omega)]; exact hR_19⟩) rfl
    · refine r_aload_n C (i := 0) 2 dX6_turn_71 rfl rfl ?_
      refine r_iload_n C (i := 2) 1 dX6_turn_72 rfl rfl ?_
      refine r_bipush C dX6_turn_73 kb_6 ?_
      refine r_irem (v := nI ((x / 8) % 6)) C dX6_turn_75 (v_nz (by omega) (by omega)) (v_rem (by omega) (by omega) (by omega)) ?_
      refine r_iload_n C (i := 2) 1 dX6_turn_76 rfl rfl ?_
      refine r_bipush C dX6_turn_77 kb_6 ?_
      refine r_idiv (v := nI ((x / 8) / 6)) C dX6_turn_79 (v_nz (by omega) (by omega)) (v_div (by omega) (by omega) (by omega)) ?_
      refine r_bipush C dX6_turn_80 kb_10 ?_
      refine r_irem (v := nI (((x / 8) / 6) % 10)) C dX6_turn_82 (v_nz (by omega) (by omega)) (v_rem (by omega) (by omega) (by omega)) ?_
      refine r_readS (rest := []) C (c_X6_canStudy (r := r) (g := g) (σ := σ) (p := (x / 8) % 6) (a := ((x / 8) / 6) % 10) (hR := hR) (hW := hW) (hp := (by omega)) (ha := (by omega))) lk_X6_canStudy w_5_163 [0] dX6_turn_83 rfl rfl rfl ⟨by decide, by decide⟩ (Nat.le_of_ble_eq_true rfl) (st' := [.int (bP (((x / 8) % 6) < sP σ ∧ (((x / 8) / 6) % 10) < sA σ ∧ sC σ ((x / 8) % 6) < 4 ∧ rk σ ((x / 8) % 6) (((x / 8) / 6) % 10) = 0))]) rfl ?_
      refine r_if_eq C (y := 0) (c9 := ¬ (((x / 8) % 6) < sP σ ∧ (((x / 8) / 6) % 10) < sA σ ∧ sC σ ((x / 8) % 6) < 4 ∧ rk σ ((x / 8) % 6) (((x / 8) / 6) % 10) = 0)) 246 dX6_turn_86 (by decide) z_eqB (fun h86_21 => ?_) (fun h86_21 => ?_)
      · exact RT.2.2.1 _ _ _ dX6_turn_246 rfl (⟨_, rfl, rfl, by unfold tuS; rw [if_neg (by omega), if_pos (by omega)]; unfold tStudy; rw [if_neg (show ¬ (x / 8 % 6 < sP σ ∧ x / 8 / 6 % 10 < sA σ ∧ sC σ (x / 8 % 6) < 4 ∧ rk σ (x / 8 % 6) (x / 8 / 6 % 10) = 0) by omega)]; exact hR⟩) rfl
      · replace h86_21 : ((x / 8) % 6) < sP σ ∧ (((x / 8) / 6) % 10) < sA σ ∧ sC σ ((x / 8) % 6) < 4 ∧ rk σ ((x / 8) % 6) (((x / 8) / 6) % 10) = 0 := Decidable.not_not.mp h86_21
        refine r_aload_n C (i := 0) 2 dX6_turn_89 rfl rfl ?_
        refine r_iload_n C (i := 2) 1 dX6_turn_90 rfl rfl ?_
        refine r_bipush C dX6_turn_91 kb_6 ?_
        refine r_irem (v := nI ((x / 8) % 6)) C dX6_turn_93 (v_nz (by omega) (by omega)) (v_rem (by omega) (by omega) (by omega)) ?_
        refine r_iload_n C (i := 2) 1 dX6_turn_94 rfl rfl ?_
        refine r_bipush C dX6_turn_95 kb_6 ?_
        refine r_idiv (v := nI ((x / 8) / 6)) C dX6_turn_97 (v_nz (by omega) (by omega)) (v_div (by omega) (by omega) (by omega)) ?_
        refine r_bipush C dX6_turn_98 kb_10 ?_
        refine r_irem (v := nI (((x / 8) / 6) % 10)) C dX6_turn_100 (v_nz (by omega) (by omega)) (v_rem (by omega) (by omega) (by omega)) ?_
        refine r_callS (rest := []) C (c_X6_studyOn (r := r) (g := g) (σ := σ) (p := (x / 8) % 6) (a := ((x / 8) / 6) % 10) (hR := hR) (hW := hW) (hp := (by omega)) (ha := (by omega)) (hC := (by omega))) lk_X6_studyOn w_5_169 [0] dX6_turn_101 rfl rfl rfl ⟨by decide, by decide⟩ (Nat.le_of_ble_eq_true rfl) ?_
        rintro _ _ ⟨g_22, rfl, rfl, hR_23⟩
        have hW_24 : Wf (oStudy σ ((x / 8) % 6) (((x / 8) / 6) % 10)) := oStudy_wf hW (by omega) (by omega)
        show ω [(r, .inl (eI E, 255, .inl g_22))] [(3, .int (nI (x % 8))), (2, .int (nI (x / 8))), (0, .ref r), (1, .int (nI x))] [.int (nI (sC σ ((x / 8) % 6) + 1))] 104
        refine r_pop C dX6_turn_104 rfl ?_
        refine r_goto C 246 dX6_turn_105 (by decide) ?_
        exact RT.2.2.1 _ _ _ dX6_turn_246 rfl (⟨_, rfl, rfl, by unfold tuS; rw [if_neg (by omega), if_pos (by omega)]; unfold tStudy; rw [if_pos (show x / 8 % 6 < sP σ ∧ x / 8 / 6 % 10 < sA σ ∧ sC σ (x / 8 % 6) < 4 ∧ rk σ (x / 8 % 6) (x / 8 / 6 % 10) = 0 by omega)]; exact hR_23⟩) rfl
  · refine r_aload_n C (i := 0) 2 dX6_turn_15 rfl rfl ?_
    refine r_iload_n C (i := 2) 1 dX6_turn_16 rfl rfl ?_
    refine r_bipush C dX6_turn_17 kb_6 ?_
    refine r_irem (v := nI ((x / 8) % 6)) C dX6_turn_19 (v_nz (by omega) (by omega)) (v_rem (by omega) (by omega) (by omega)) ?_
    refine r_readS (rest := []) C (c_X6_isPart (r := r) (g := g) (σ := σ) (i := (x / 8) % 6) (hR := hR) (hW := hW) (hi := (by omega))) lk_X6_isPart w_5_151 [0] dX6_turn_20 rfl rfl rfl ⟨by decide, by decide⟩ (Nat.le_of_ble_eq_true rfl) (st' := [.int (bP (((x / 8) % 6) < sP σ))]) rfl ?_
    refine r_if_eq C (y := 0) (c9 := ¬ (((x / 8) % 6) < sP σ)) 246 dX6_turn_23 (by decide) z_eqB (fun h23_25 => ?_) (fun h23_25 => ?_)
    · exact RT.2.2.1 _ _ _ dX6_turn_246 rfl (⟨_, rfl, rfl, by unfold tuS; rw [if_pos (by omega)]; unfold tCast; rw [if_neg (show ¬ (x / 8 % 6 < sP σ ∧ x / 8 / 64 % 20 < 20 ∧ x / 8 / 6 % 10 + 1 ≤ sA σ) by omega)]; exact hR⟩) rfl
    · replace h23_25 : ((x / 8) % 6) < sP σ := Decidable.not_not.mp h23_25
      refine r_aload_n C (i := 0) 2 dX6_turn_26 rfl rfl ?_
      refine r_iload_n C (i := 2) 1 dX6_turn_27 rfl rfl ?_
      refine r_bipush C dX6_turn_28 kb_6 ?_
      refine r_idiv (v := nI ((x / 8) / 6)) C dX6_turn_30 (v_nz (by omega) (by omega)) (v_div (by omega) (by omega) (by omega)) ?_
      refine r_bipush C dX6_turn_31 kb_10 ?_
      refine r_irem (v := nI (((x / 8) / 6) % 10)) C dX6_turn_33 (v_nz (by omega) (by omega)) (v_rem (by omega) (by omega) (by omega)) ?_
      refine r_readS (rest := []) C (c_X6_isActor (r := r) (g := g) (σ := σ) (i := ((x / 8) / 6) % 10) (hR := hR) (hW := hW) (hi := (by omega))) lk_X6_isActor w_5_154 [0] dX6_turn_34 rfl rfl rfl ⟨by decide, by decide⟩ (Nat.le_of_ble_eq_true rfl) (st' := [.int (bP ((((x / 8) / 6) % 10) < sA σ))]) rfl ?_
      refine r_if_eq C (y := 0) (c9 := ¬ ((((x / 8) / 6) % 10) < sA σ)) 246 dX6_turn_37 (by decide) z_eqB (fun h37_26 => ?_) (fun h37_26 => ?_)
      · exact RT.2.2.1 _ _ _ dX6_turn_246 rfl (⟨_, rfl, rfl, by unfold tuS; rw [if_pos (by omega)]; unfold tCast; rw [if_neg (show ¬ (x / 8 % 6 < sP σ ∧ x / 8 / 64 % 20 < 20 ∧ x / 8 / 6 % 10 + 1 ≤ sA σ) by omega)]; exact hR⟩) rfl
      · replace h37_26 : (((x / 8) / 6) % 10) < sA σ := Decidable.not_not.mp h37_26
        refine r_aload_n C (i := 0) 2 dX6_turn_40 rfl rfl ?_
        refine r_iload_n C (i := 2) 1 dX6_turn_41 rfl rfl ?_
        refine r_bipush C dX6_turn_42 kb_6 ?_
        refine r_irem (v := nI ((x / 8) % 6)) C dX6_turn_44 (v_nz (by omega) (by omega)) (v_rem (by omega) (by omega) (by omega)) ?_
        refine r_iload_n C (i := 2) 1 dX6_turn_45 rfl rfl ?_
        refine r_bipush C dX6_turn_46 kb_6 ?_
        refine r_idiv (v := nI ((x / 8) / 6)) C dX6_turn_48 (v_nz (by omega) (by omega)) (v_div (by omega) (by omega) (by omega)) ?_
        refine r_bipush C dX6_turn_49 kb_10 ?_
        refine r_irem (v := nI (((x / 8) / 6) % 10)) C dX6_turn_51 (v_nz (by omega) (by omega)) (v_rem (by omega) (by omega) (by omega)) ?_
        refine r_iload_n C (i := 2) 1 dX6_turn_52 rfl rfl ?_
        refine r_bipush C dX6_turn_53 kb_64 ?_
        refine r_idiv (v := nI ((x / 8) / 64)) C dX6_turn_55 (v_nz (by omega) (by omega)) (v_div (by omega) (by omega) (by omega)) ?_
        refine r_bipush C dX6_turn_56 kb_20 ?_
        refine r_irem (v := nI (((x / 8) / 64) % 20)) C dX6_turn_58 (v_nz (by omega) (by omega)) (v_rem (by omega) (by omega) (by omega)) ?_
        refine r_callS (rest := []) C (c_X6_castOn__n (r := r) (g := g) (σ := σ) (p := (x / 8) % 6) (a := ((x / 8) / 6) % 10) (n := ((x / 8) / 64) % 20) (hR := hR) (hW := hW) (hp := (by omega)) (hn := (by omega)) (hx := (by omega))) lk_X6_castOn w_5_157 [0] dX6_turn_59 rfl rfl rfl ⟨by decide, by decide⟩ (Nat.le_of_ble_eq_true rfl) ?_
        rintro _ _ ⟨g_27, rfl, rfl, hR_28⟩
        have hW_29 : Wf (oCast σ ((x / 8) % 6) ((((x / 8) / 6) % 10) + 1) (((x / 8) / 64) % 20)) := oCast_wf hW (by omega)
        show ω [(r, .inl (eI E, 255, .inl g_27))] [(3, .int (nI (x % 8))), (2, .int (nI (x / 8))), (0, .ref r), (1, .int (nI x))] [.int (mI (sR σ ((x / 8) % 6) (((x / 8) / 64) % 20)))] 62
        refine r_pop C dX6_turn_62 rfl ?_
        refine r_goto C 246 dX6_turn_63 (by decide) ?_
        exact RT.2.2.1 _ _ _ dX6_turn_246 rfl (⟨_, rfl, rfl, by unfold tuS; rw [if_pos (by omega)]; unfold tCast; rw [if_pos (show x / 8 % 6 < sP σ ∧ x / 8 / 64 % 20 < 20 ∧ x / 8 / 6 % 10 + 1 ≤ sA σ by omega)]; exact hR_28⟩) rfl
set_option maxRecDepth 100000 in
set_option maxHeartbeats 1000000 in
theorem c_X6_simulate {l : Launch} {E : Ev} {hM rf x1 sz x3 x4 x5 ac x7 x8 x9 x10 x11 sp ou : Nat} {t1 t2 t3 : Nat → Int32} {g4 : Nat → Int32} {g : Nat → Int32} {σ : Sg} (hR : RepM σ g) (hW : Wf σ) {x : Int64} {m : Nat} (hm : 1 ≤ m ∧ m ≤ 60) : Ct l E yX6_simulate cX6_simulate 7 (some FieldType.int) 6 146 [.ref hM, .long x, .int (nI m)] [(hM, .inr (6, [.int (nI rf), .ref x1, .int (nI sz), .ref x3, .ref x4, .ref x5, .int (nI ac), .ref x7, .ref x8, .ref x9, .ref x10, .ref x11, .int (nI sp), .int (nI ou)])), (x9, .inl (eI E, 6, .inl t1)), (x10, .inl (eI E, 6, .inl t2)), (x11, .inl (eI E, 6, .inl t3)), (x3, .inl (eI E, 255, .inl g)), (x4, .inl (eI E, 255, .inl g4))] (fun v9 w9 => ∃ ta tb tc td : Nat → Int32, v9 = some (.int (nI (100000 * dkS (siS σ x m) 20 + tkS (siS σ x m) 20))) ∧ w9 = [(hM, .inr (6, [.int (nI 0), .ref x1, .int (nI sz), .ref x3, .ref x4, .ref x5, .int (nI ac), .ref x7, .ref x8, .ref x9, .ref x10, .ref x11, .int (nI sp), .int (nI ou)])), (x9, .inl (eI E, 6, .inl ta)), (x10, .inl (eI E, 6, .inl tb)), (x11, .inl (eI E, 6, .inl tc)), (x3, .inl (eI E, 255, .inl g)), (x4, .inl (eI E, 255, .inl td))]) := by
  have hwP := hW.P
  have hwA := hW.A
  have hwS := hW.S
  refine ct_of (by decide +kernel) (Nat.le_of_ble_eq_true rfl) (fun ω C RT => ?_)
  show ω [(hM, .inr (6, [.int (nI rf), .ref x1, .int (nI sz), .ref x3, .ref x4, .ref x5, .int (nI ac), .ref x7, .ref x8, .ref x9, .ref x10, .ref x11, .int (nI sp), .int (nI ou)])), (x9, .inl (eI E, 6, .inl t1)), (x10, .inl (eI E, 6, .inl t2)), (x11, .inl (eI E, 6, .inl t3)), (x3, .inl (eI E, 255, .inl g)), (x4, .inl (eI E, 255, .inl g4))] [(0, .ref hM), (1, .long x), (3, .int (nI m))] [] 0
  refine r_aload_n C (i := 0) 0 dX6_simulate_0 rfl rfl ?_
  refine r_iload_n C (i := 3) 2 dX6_simulate_1 rfl rfl ?_
  refine r_i2l (v := lN m) C dX6_simulate_2 (v_i2l (by omega)) ?_
  refine r_lconst (v := lN 1) C dX6_simulate_3 (by decide +kernel) ?_
  refine r_ldc2 (v := lN 60) C dX6_simulate_4 w_6_152 ?_
  refine r_readS (rest := [.ref hM]) C (c_X6_in (v := lN m) (lw := lN 1) (hg := lN 60)) lk_X6_in w_5_113 [] dX6_simulate_7 rfl rfl rfl ⟨by decide, by decide⟩ (Nat.le_of_ble_eq_true rfl) (st' := [.int (bP (lN 1 ≤ lN m ∧ lN m ≤ lN 60)), .ref hM]) rfl ?_
  refine r_st (st' := [.int (bP (1 ≤ m ∧ m ≤ 60)), .ref hM]) (by rw [bP_c (in_1N (by omega) (by omega))]) ?_
  refine r_if_eq C (y := 0) (c9 := ¬ (1 ≤ m ∧ m ≤ 60)) 17 dX6_simulate_10 (by decide) z_eqB (fun h10_1 => ?_) (fun h10_1 => ?_)
  · refine r_iconst C dX6_simulate_17 ki_1 ?_
    first | (exfalso; omega) | (exfalso; simp_all; done)
  · replace h10_1 : 1 ≤ m ∧ m ≤ 60 := Decidable.not_not.mp h10_1
    refine r_iconst C dX6_simulate_13 ki_0 ?_
    refine r_goto C 18 dX6_simulate_14 (by decide) ?_
    refine r_callV (rest := []) C (c_X6_refused (hM := hM) (rf := rf) (x1 := x1) (sz := sz) (x3 := x3) (x4 := x4) (x5 := x5) (ac := ac) (x7 := x7) (x8 := x8) (x9 := x9) (x10 := x10) (x11 := x11) (sp := sp) (ou := ou) (w := 0) (hw := (by omega))) lk_X6_refused w_5_116 [0] rfl dX6_simulate_18 rfl rfl rfl rfl ⟨by decide, by decide⟩ (Nat.le_of_ble_eq_true rfl) ?_
    rintro _ _ ⟨rfl, rfl⟩
    show ω [(hM, .inr (6, [.int (nI 0), .ref x1, .int (nI sz), .ref x3, .ref x4, .ref x5, .int (nI ac), .ref x7, .ref x8, .ref x9, .ref x10, .ref x11, .int (nI sp), .int (nI ou)])), (x9, .inl (eI E, 6, .inl t1)), (x10, .inl (eI E, 6, .inl t2)), (x11, .inl (eI E, 6, .inl t3)), (x3, .inl (eI E, 255, .inl g)), (x4, .inl (eI E, 255, .inl g4))] [(0, .ref hM), (1, .long x), (3, .int (nI m))] [.int (bP (0 < 0))] 21
    refine r_if_eqT C (y := 0) 26 dX6_simulate_21 (by decide) (z_eqB.mpr (by decide)) ?_
    refine r_aload_n C (i := 0) 0 dX6_simulate_26 rfl rfl ?_
    refine r_get C 0 3 uX6 rfl rfl (by decide) w_5_64 rfl dX6_simulate_27 ?_
    refine r_iconst C dX6_simulate_30 ki_0 ?_
    refine r_aload_n C (i := 0) 0 dX6_simulate_31 rfl rfl ?_
    refine r_get C 0 4 uX6 rfl rfl (by decide) w_5_65 rfl dX6_simulate_32 ?_
    refine r_iconst C dX6_simulate_35 ki_0 ?_
    refine r_callS (rest := []) C (c_X6_copyState__255_255 (q2 := x3) (q3 := x4) (fa := 0) (ta := 0) (F := g) (F2 := g4) (hf := (by omega)) (ht := (by omega))) lk_X6_copyState w_5_196 [4, 5] dX6_simulate_36 rfl rfl rfl ⟨by decide, by decide⟩ (Nat.le_of_ble_eq_true rfl) ?_
    rintro _ _ ⟨rfl, rfl⟩
    show ω [(hM, .inr (6, [.int (nI 0), .ref x1, .int (nI sz), .ref x3, .ref x4, .ref x5, .int (nI ac), .ref x7, .ref x8, .ref x9, .ref x10, .ref x11, .int (nI sp), .int (nI ou)])), (x9, .inl (eI E, 6, .inl t1)), (x10, .inl (eI E, 6, .inl t2)), (x11, .inl (eI E, 6, .inl t3)), (x3, .inl (eI E, 255, .inl g)), (x4, .inl (eI E, 255, .inl (va_cpy g g4 0 0 255)))] [(0, .ref hM), (1, .long x), (3, .int (nI m))] [] 39
    have hcp2 : RepM σ (va_cpy g g4 0 0 255) := RepM_cp hR hW
    refine r_lload_n C (i := 1) 1 dX6_simulate_39 rfl rfl ?_
    refine r_lstore C (lv' := [(4, .long x), (0, .ref hM), (1, .long x), (3, .int (nI m))]) dX6_simulate_40 (by decide) rfl ?_
    refine r_iconst C dX6_simulate_42 ki_0 ?_
    refine r_istore C (lv' := [(6, .int (nI 0)), (4, .long x), (0, .ref hM), (1, .long x), (3, .int (nI m))]) dX6_simulate_43 (by decide) rfl ?_
    have loop45_3 : ∀ (dd9 : Nat) (k : Nat) (xx : Int64) (s4 : Nat → Int32), m - k < dd9 → (k ≤ m) → (xx = sx x k) → (RepM (siS σ x k) s4) → (Wf (siS σ x k)) → ω [(hM, .inr (6, [.int (nI 0), .ref x1, .int (nI sz), .ref x3, .ref x4, .ref x5, .int (nI ac), .ref x7, .ref x8, .ref x9, .ref x10, .ref x11, .int (nI sp), .int (nI ou)])), (x9, .inl (eI E, 6, .inl t1)), (x10, .inl (eI E, 6, .inl t2)), (x11, .inl (eI E, 6, .inl t3)), (x3, .inl (eI E, 255, .inl g)), (x4, .inl (eI E, 255, .inl s4))] [(6, .int (nI k)), (4, .long xx), (0, .ref hM), (1, .long x), (3, .int (nI m))] [] 45 := by
      intro dd9
      induction dd9 with
      | zero => intro k xx s4 hd; exact absurd hd (Nat.not_lt_zero _)
      | succ dd9 ih4 =>
        intro k xx s4 hd hk hxx hr4 hw4
        have hlt := hi31_lt (lcg xx)
        refine r_iload C (i := 6) 0 dX6_simulate_45 rfl ?_
        refine r_iload_n C (i := 3) 4 dX6_simulate_47 rfl rfl ?_
        refine r_icmp_ge C (c9 := m ≤ k) 82 dX6_simulate_48 (by decide) (c_leNN (by omega) (by omega)) (fun h48_5 => ?_) (fun h48_5 => ?_)
        · refine r_ldc (v := nI 100000) C dX6_simulate_82 w_6_158 ?_
          refine r_aload_n C (i := 0) 2 dX6_simulate_84 rfl rfl ?_
          refine r_aload_n C (i := 0) 2 dX6_simulate_85 rfl rfl ?_
          refine r_get C 0 4 uX6 rfl rfl (by decide) w_5_65 rfl dX6_simulate_86 ?_
          refine r_callV (rest := [.int (nI 100000)]) C (c_X6_dark (hM := hM) (rf := 0) (x1 := x1) (sz := sz) (x3 := x3) (x4 := x4) (x5 := x5) (ac := ac) (x7 := x7) (x8 := x8) (x9 := x9) (x10 := x10) (x11 := x11) (sp := sp) (ou := ou) (t1 := t1) (t2 := t2) (t3 := t3) (r := x4) (g := s4) (σ := (siS σ x k)) (hR := hr4) (hW := hw4)) lk_X6_dark w_5_230 [0, 1, 2, 3, 5] rfl dX6_simulate_89 rfl rfl rfl rfl ⟨by decide, by decide⟩ (Nat.le_of_ble_eq_true rfl) ?_
          rintro _ _ ⟨ta_6, tb_7, tc_8, rfl, rfl⟩
          show ω [(hM, .inr (6, [.int (nI 0), .ref x1, .int (nI sz), .ref x3, .ref x4, .ref x5, .int (nI ac), .ref x7, .ref x8, .ref x9, .ref x10, .ref x11, .int (nI sp), .int (nI ou)])), (x9, .inl (eI E, 6, .inl ta_6)), (x10, .inl (eI E, 6, .inl tb_7)), (x11, .inl (eI E, 6, .inl tc_8)), (x3, .inl (eI E, 255, .inl g)), (x4, .inl (eI E, 255, .inl s4))] [(6, .int (nI k)), (4, .long xx), (0, .ref hM), (1, .long x), (3, .int (nI m))] [.int (nI (dkS (siS σ x k) 20)), .int (nI 100000)] 92
          refine r_imul (v := nI (100000 * (dkS (siS σ x k) 20))) C dX6_simulate_92 (pk_mul _ _) ?_
          refine r_aload_n C (i := 0) 2 dX6_simulate_93 rfl rfl ?_
          refine r_aload_n C (i := 0) 2 dX6_simulate_94 rfl rfl ?_
          refine r_get C 0 4 uX6 rfl rfl (by decide) w_5_65 rfl dX6_simulate_95 ?_
          refine r_callV (rest := [.int (nI (100000 * (dkS (siS σ x k) 20)))]) C (c_X6_allTakings (hM := hM) (rf := 0) (x1 := x1) (sz := sz) (x3 := x3) (x4 := x4) (x5 := x5) (ac := ac) (x7 := x7) (x8 := x8) (x9 := x9) (x10 := x10) (x11 := x11) (sp := sp) (ou := ou) (t1 := ta_6) (t2 := tb_7) (t3 := tc_8) (r := x4) (g := s4) (σ := (siS σ x k)) (hR := hr4) (hW := hw4)) lk_X6_allTakings w_5_234 [0, 1, 2, 3, 5] rfl dX6_simulate_98 rfl rfl rfl rfl ⟨by decide, by decide⟩ (Nat.le_of_ble_eq_true rfl) ?_
          rintro _ _ ⟨ta_9, tb_10, tc_11, rfl, rfl⟩
          show ω [(hM, .inr (6, [.int (nI 0), .ref x1, .int (nI sz), .ref x3, .ref x4, .ref x5, .int (nI ac), .ref x7, .ref x8, .ref x9, .ref x10, .ref x11, .int (nI sp), .int (nI ou)])), (x9, .inl (eI E, 6, .inl ta_9)), (x10, .inl (eI E, 6, .inl tb_10)), (x11, .inl (eI E, 6, .inl tc_11)), (x3, .inl (eI E, 255, .inl g)), (x4, .inl (eI E, 255, .inl s4))] [(6, .int (nI k)), (4, .long xx), (0, .ref hM), (1, .long x), (3, .int (nI m))] [.int (nI (tkS (siS σ x k) 20)), .int (nI (100000 * (dkS (siS σ x k) 20)))] 101
          refine r_iadd (v := nI ((100000 * (dkS (siS σ x k) 20)) + (tkS (siS σ x k) 20))) C dX6_simulate_101 (nI_add _ _) ?_
          exact RT.1 _ _ _ _ _ dX6_simulate_102 rfl rfl (⟨_, _, _, _, sv (congrArg nI (by rw [(by omega : k = m)])), rfl⟩) rfl
        · refine r_lload C (i := 4) 1 dX6_simulate_51 rfl ?_
          refine r_ldc2 (v := lN 6364136223846793005) C dX6_simulate_53 w_6_153 ?_
          refine r_lmul (v := (xx * lN 6364136223846793005)) C dX6_simulate_56 rfl ?_
          refine r_ldc2 (v := lN 1442695040888963407) C dX6_simulate_57 w_6_154 ?_
          refine r_ladd (v := lcg xx) C dX6_simulate_60 rfl ?_
          refine r_lstore C (lv' := [(4, .long (lcg xx)), (6, .int (nI k)), (0, .ref hM), (1, .long x), (3, .int (nI m))]) dX6_simulate_61 (by decide) rfl ?_
          refine r_aload_n C (i := 0) 2 dX6_simulate_63 rfl rfl ?_
          refine r_get C 0 4 uX6 rfl rfl (by decide) w_5_65 rfl dX6_simulate_64 ?_
          refine r_lload C (i := 4) 0 dX6_simulate_67 rfl ?_
          refine r_bipush C dX6_simulate_69 kb_33 ?_
          refine r_lushr (v := ((lcg xx).toUInt64 >>> ((nI 33).toInt64.toUInt64 &&& Int64.toUInt64 63)).toInt64) C dX6_simulate_71 rfl ?_
          refine r_l2i (v := nI (hi31 (lcg xx))) C dX6_simulate_72 (hi31_e _) ?_
          refine r_callS (rest := []) C (c_X6_turn (r := x4) (g := s4) (σ := (siS σ x k)) (x := hi31 (lcg xx)) (hR := hr4) (hW := hw4) (hx := (by omega))) lk_X6_turn w_6_155 [5] dX6_simulate_73 rfl rfl rfl ⟨by decide, by decide⟩ (Nat.le_of_ble_eq_true rfl) ?_
          rintro _ _ ⟨g_12, rfl, rfl, hR_13⟩
          have hW_14 : Wf (tuS (siS σ x k) (hi31 (lcg xx))) := tuS_wf hw4 (hi31 (lcg xx))
          show ω [(hM, .inr (6, [.int (nI 0), .ref x1, .int (nI sz), .ref x3, .ref x4, .ref x5, .int (nI ac), .ref x7, .ref x8, .ref x9, .ref x10, .ref x11, .int (nI sp), .int (nI ou)])), (x9, .inl (eI E, 6, .inl t1)), (x10, .inl (eI E, 6, .inl t2)), (x11, .inl (eI E, 6, .inl t3)), (x3, .inl (eI E, 255, .inl g)), (x4, .inl (eI E, 255, .inl g_12))] [(4, .long (lcg xx)), (6, .int (nI k)), (0, .ref hM), (1, .long x), (3, .int (nI m))] [] 76
          refine r_iinc C (lv' := [(6, .int (nI (k + 1))), (4, .long (lcg xx)), (0, .ref hM), (1, .long x), (3, .int (nI m))]) (v := nI (k + 1)) 1 dX6_simulate_76 rfl (v_inc _) (by decide) rfl ?_
          refine r_goto C 45 dX6_simulate_79 (by decide) ?_
          exact ih4 (k + 1) (lcg xx) g_12 (by omega) (by omega) (by rw [sx, hxx]) (by rw [siS, sx, ← hxx]; exact hR_13) (siS_wf hW x (k + 1))
    exact loop45_3 _ 0 x (va_cpy g g4 0 0 255) (Nat.lt_succ_self _) (by omega) rfl hcp2 hW
set_option maxRecDepth 100000 in
set_option maxHeartbeats 1000000 in
theorem c_X6_simulate__x1 {l : Launch} {E : Ev} {hM rf x1 sz x3 x4 x5 ac x7 x8 x9 x10 x11 sp ou : Nat} {g : Nat → Int32} {σ : Sg} (hR : RepM σ g) (hW : Wf σ) {x : Int64} {m : Int32} (hx : ¬ vJ m 60) : Ct l E yX6_simulate cX6_simulate 7 (some FieldType.int) 6 146 [.ref hM, .long x, .int m] [(hM, .inr (6, [.int (nI rf), .ref x1, .int (nI sz), .ref x3, .ref x4, .ref x5, .int (nI ac), .ref x7, .ref x8, .ref x9, .ref x10, .ref x11, .int (nI sp), .int (nI ou)])), (x3, .inl (eI E, 255, .inl g))] (fun v9 w9 => v9 = some (.int (nI 0)) ∧ w9 = [(hM, .inr (6, [.int (nI 1), .ref x1, .int (nI sz), .ref x3, .ref x4, .ref x5, .int (nI ac), .ref x7, .ref x8, .ref x9, .ref x10, .ref x11, .int (nI sp), .int (nI ou)])), (x3, .inl (eI E, 255, .inl g))]) := by
  have hwP := hW.P
  have hwA := hW.A
  have hwS := hW.S
  refine ct_of (by decide +kernel) (Nat.le_of_ble_eq_true rfl) (fun ω C RT => ?_)
  show ω [(hM, .inr (6, [.int (nI rf), .ref x1, .int (nI sz), .ref x3, .ref x4, .ref x5, .int (nI ac), .ref x7, .ref x8, .ref x9, .ref x10, .ref x11, .int (nI sp), .int (nI ou)])), (x3, .inl (eI E, 255, .inl g))] [(0, .ref hM), (1, .long x), (3, .int m)] [] 0
  refine r_aload_n C (i := 0) 0 dX6_simulate_0 rfl rfl ?_
  refine r_iload_n C (i := 3) 2 dX6_simulate_1 rfl rfl ?_
  refine r_i2l (v := (m).toInt64) C dX6_simulate_2 rfl ?_
  refine r_lconst (v := lN 1) C dX6_simulate_3 (by decide +kernel) ?_
  refine r_ldc2 (v := lN 60) C dX6_simulate_4 w_6_152 ?_
  refine r_readS (rest := [.ref hM]) C (c_X6_in (v := (m).toInt64) (lw := lN 1) (hg := lN 60)) lk_X6_in w_5_113 [] dX6_simulate_7 rfl rfl rfl ⟨by decide, by decide⟩ (Nat.le_of_ble_eq_true rfl) (st' := [.int (bP (lN 1 ≤ (m).toInt64 ∧ (m).toInt64 ≤ lN 60)), .ref hM]) rfl ?_
  refine r_st (st' := [.int (bP (vJ m 60)), .ref hM]) (by rw [bP_c (in_1r (by omega))]) ?_
  refine r_if_eq C (y := 0) (c9 := ¬ (vJ m 60)) 17 dX6_simulate_10 (by decide) z_eqB (fun h10_1 => ?_) (fun h10_1 => ?_)
  · refine r_iconst C dX6_simulate_17 ki_1 ?_
    refine r_callV (rest := []) C (c_X6_refused (hM := hM) (rf := rf) (x1 := x1) (sz := sz) (x3 := x3) (x4 := x4) (x5 := x5) (ac := ac) (x7 := x7) (x8 := x8) (x9 := x9) (x10 := x10) (x11 := x11) (sp := sp) (ou := ou) (w := 1) (hw := (by omega))) lk_X6_refused w_5_116 [0] rfl dX6_simulate_18 rfl rfl rfl rfl ⟨by decide, by decide⟩ (Nat.le_of_ble_eq_true rfl) ?_
    rintro _ _ ⟨rfl, rfl⟩
    show ω [(hM, .inr (6, [.int (nI 1), .ref x1, .int (nI sz), .ref x3, .ref x4, .ref x5, .int (nI ac), .ref x7, .ref x8, .ref x9, .ref x10, .ref x11, .int (nI sp), .int (nI ou)])), (x3, .inl (eI E, 255, .inl g))] [(0, .ref hM), (1, .long x), (3, .int m)] [.int (bP (0 < 1))] 21
    refine r_if_eqF C (y := 0) (tgt := 26) dX6_simulate_21 (by decide) (fun z => ((by decide) : ¬ (¬ (0 < 1))) (z_eqB.mp z)) ?_
    refine r_iconst C dX6_simulate_24 ki_0 ?_
    exact RT.1 _ _ _ _ _ dX6_simulate_25 rfl rfl (⟨rfl, rfl⟩) rfl
  · replace h10_1 : vJ m 60 := Decidable.not_not.mp h10_1
    refine r_iconst C dX6_simulate_13 ki_0 ?_
    refine r_goto C 18 dX6_simulate_14 (by decide) ?_
    first | (exfalso; omega) | (exfalso; simp_all; done)
theorem l_nzB {d : Nat} (h0 : 0 < d) (hd : d < 2 ^ 63) : ¬ lN d = 0 := fun e => by
  have h1 := congrArg Int64.toInt e
  have h2 : (0 : Int64).toInt = 0 := by decide
  rw [pk_lT hd] at h1
  omega
set_option maxRecDepth 100000 in
set_option maxHeartbeats 1000000 in
theorem c_X6_runScript {l : Launch} {E : Ev} {hM rf x1 sz x3 x4 x5 ac x7 x8 x9 x10 x11 sp ou : Nat} {t1 t2 t3 : Nat → Int32} {g4 : Nat → Int32} {g : Nat → Int32} {σ : Sg} (hR : RepM σ g) (hW : Wf σ) {n S : Nat} (hn : 1 ≤ n ∧ n ≤ 3) (hS : S < 100000 ^ n) : Ct l E yX6_runScript cX6_runScript 8 (some FieldType.int) 6 151 [.ref hM, .int (nI n), .long (lN S)] [(hM, .inr (6, [.int (nI rf), .ref x1, .int (nI sz), .ref x3, .ref x4, .ref x5, .int (nI ac), .ref x7, .ref x8, .ref x9, .ref x10, .ref x11, .int (nI sp), .int (nI ou)])), (x9, .inl (eI E, 6, .inl t1)), (x10, .inl (eI E, 6, .inl t2)), (x11, .inl (eI E, 6, .inl t3)), (x3, .inl (eI E, 255, .inl g)), (x4, .inl (eI E, 255, .inl g4))] (fun v9 w9 => ∃ ta tb tc td : Nat → Int32, v9 = some (.int (mI (srN σ S n))) ∧ w9 = [(hM, .inr (6, [.int (nI 0), .ref x1, .int (nI sz), .ref x3, .ref x4, .ref x5, .int (nI ac), .ref x7, .ref x8, .ref x9, .ref x10, .ref x11, .int (nI sp), .int (nI ou)])), (x9, .inl (eI E, 6, .inl ta)), (x10, .inl (eI E, 6, .inl tb)), (x11, .inl (eI E, 6, .inl tc)), (x3, .inl (eI E, 255, .inl g)), (x4, .inl (eI E, 255, .inl td))]) := by
  have hwP := hW.P
  have hwA := hW.A
  have hwS := hW.S
  have hp3 := p5 hn.2
  have hS9 : S < 1000000000000000 := by omega
  refine ct_of (by decide +kernel) (Nat.le_of_ble_eq_true rfl) (fun ω C RT => ?_)
  show ω [(hM, .inr (6, [.int (nI rf), .ref x1, .int (nI sz), .ref x3, .ref x4, .ref x5, .int (nI ac), .ref x7, .ref x8, .ref x9, .ref x10, .ref x11, .int (nI sp), .int (nI ou)])), (x9, .inl (eI E, 6, .inl t1)), (x10, .inl (eI E, 6, .inl t2)), (x11, .inl (eI E, 6, .inl t3)), (x3, .inl (eI E, 255, .inl g)), (x4, .inl (eI E, 255, .inl g4))] [(0, .ref hM), (1, .int (nI n)), (2, .long (lN S))] [] 0
  refine r_lconst (v := lN 1) C dX6_runScript_0 (by decide +kernel) ?_
  refine r_lstore C (lv' := [(4, .long (lN 1)), (0, .ref hM), (1, .int (nI n)), (2, .long (lN S))]) dX6_runScript_1 (by decide) rfl ?_
  refine r_iconst C dX6_runScript_3 ki_0 ?_
  refine r_istore C (lv' := [(6, .int (nI 0)), (4, .long (lN 1)), (0, .ref hM), (1, .int (nI n)), (2, .long (lN S))]) dX6_runScript_4 (by decide) rfl ?_
  have loop6_1 : ∀ (dd9 : Nat) (k : Nat) (al : Nat), n - k < dd9 → (k ≤ n) → (al = 100000 ^ k) → ω [(hM, .inr (6, [.int (nI rf), .ref x1, .int (nI sz), .ref x3, .ref x4, .ref x5, .int (nI ac), .ref x7, .ref x8, .ref x9, .ref x10, .ref x11, .int (nI sp), .int (nI ou)])), (x9, .inl (eI E, 6, .inl t1)), (x10, .inl (eI E, 6, .inl t2)), (x11, .inl (eI E, 6, .inl t3)), (x3, .inl (eI E, 255, .inl g)), (x4, .inl (eI E, 255, .inl g4))] [(6, .int (nI k)), (4, .long (lN al)), (0, .ref hM), (1, .int (nI n)), (2, .long (lN S))] [] 6 := by
    intro dd9
    induction dd9 with
    | zero => intro k al hd; exact absurd hd (Nat.not_lt_zero _)
    | succ dd9 ih2 =>
      intro k al hd hk hal
      refine r_iload C (i := 6) 0 dX6_runScript_6 rfl ?_
      refine r_iload_n C (i := 1) 3 dX6_runScript_8 rfl rfl ?_
      refine r_icmp_ge C (c9 := n ≤ k) 32 dX6_runScript_9 (by decide) (c_leNN (by omega) (by omega)) (fun h9_3 => ?_) (fun h9_3 => ?_)
      · refine r_lo (lv' := [(6, .int (nI n)), (4, .long (lN (100000 ^ n))), (0, .ref hM), (1, .int (nI n)), (2, .long (lN S))]) (by rw [hal, (by omega : k = n)]) ?_
        refine r_aload_n C (i := 0) 2 dX6_runScript_32 rfl rfl ?_
        refine r_iload_n C (i := 1) 3 dX6_runScript_33 rfl rfl ?_
        refine r_i2l (v := lN n) C dX6_runScript_34 (v_i2l (by omega)) ?_
        refine r_lconst (v := lN 1) C dX6_runScript_35 (by decide +kernel) ?_
        refine r_ldc2 (v := lN 3) C dX6_runScript_36 w_6_20 ?_
        refine r_readS (rest := [.ref hM]) C (c_X6_in (v := lN n) (lw := lN 1) (hg := lN 3)) lk_X6_in w_5_113 [] dX6_runScript_39 rfl rfl rfl ⟨by decide, by decide⟩ (Nat.le_of_ble_eq_true rfl) (st' := [.int (bP (lN 1 ≤ lN n ∧ lN n ≤ lN 3)), .ref hM]) rfl ?_
        refine r_st (st' := [.int (bP (1 ≤ n ∧ n ≤ 3)), .ref hM]) (by rw [bP_c (in_1N (by omega) (by omega))]) ?_
        refine r_if_eq C (y := 0) (c9 := ¬ (1 ≤ n ∧ n ≤ 3)) 61 dX6_runScript_42 (by decide) z_eqB (fun h42_4 => ?_) (fun h42_4 => ?_)
        · refine r_iconst C dX6_runScript_61 ki_1 ?_
          first | (exfalso; omega) | (exfalso; simp_all; done)
        · replace h42_4 : 1 ≤ n ∧ n ≤ 3 := Decidable.not_not.mp h42_4
          refine r_lload_n C (i := 2) 4 dX6_runScript_45 rfl rfl ?_
          refine r_lconst (v := lN 0) C dX6_runScript_46 (by decide +kernel) ?_
          refine r_lload C (i := 4) 1 dX6_runScript_47 rfl ?_
          refine r_lconst (v := lN 1) C dX6_runScript_49 (by decide +kernel) ?_
          refine r_lsub (v := lN (100000 ^ n - 1)) C dX6_runScript_50 (lN_sub (by omega)) ?_
          refine r_readS (rest := [.ref hM]) C (c_X6_in (v := lN S) (lw := lN 0) (hg := lN (100000 ^ n - 1))) lk_X6_in w_5_113 [] dX6_runScript_51 rfl rfl rfl ⟨by decide, by decide⟩ (Nat.le_of_ble_eq_true rfl) (st' := [.int (bP (lN 0 ≤ lN S ∧ lN S ≤ lN (100000 ^ n - 1))), .ref hM]) rfl ?_
          refine r_st (st' := [.int (bP (S ≤ 100000 ^ n - 1)), .ref hM]) (by rw [bP_c (in_NB (by omega) (by omega))]) ?_
          refine r_if_eq C (y := 0) (c9 := ¬ (S ≤ 100000 ^ n - 1)) 61 dX6_runScript_54 (by decide) z_eqB (fun h54_5 => ?_) (fun h54_5 => ?_)
          · refine r_iconst C dX6_runScript_61 ki_1 ?_
            first | (exfalso; omega) | (exfalso; simp_all; done)
          · replace h54_5 : S ≤ 100000 ^ n - 1 := Decidable.not_not.mp h54_5
            refine r_iconst C dX6_runScript_57 ki_0 ?_
            refine r_goto C 62 dX6_runScript_58 (by decide) ?_
            refine r_callV (rest := []) C (c_X6_refused (hM := hM) (rf := rf) (x1 := x1) (sz := sz) (x3 := x3) (x4 := x4) (x5 := x5) (ac := ac) (x7 := x7) (x8 := x8) (x9 := x9) (x10 := x10) (x11 := x11) (sp := sp) (ou := ou) (w := 0) (hw := (by omega))) lk_X6_refused w_5_116 [0] rfl dX6_runScript_62 rfl rfl rfl rfl ⟨by decide, by decide⟩ (Nat.le_of_ble_eq_true rfl) ?_
            rintro _ _ ⟨rfl, rfl⟩
            show ω [(hM, .inr (6, [.int (nI 0), .ref x1, .int (nI sz), .ref x3, .ref x4, .ref x5, .int (nI ac), .ref x7, .ref x8, .ref x9, .ref x10, .ref x11, .int (nI sp), .int (nI ou)])), (x9, .inl (eI E, 6, .inl t1)), (x10, .inl (eI E, 6, .inl t2)), (x11, .inl (eI E, 6, .inl t3)), (x3, .inl (eI E, 255, .inl g)), (x4, .inl (eI E, 255, .inl g4))] [(6, .int (nI n)), (4, .long (lN (100000 ^ n))), (0, .ref hM), (1, .int (nI n)), (2, .long (lN S))] [.int (bP (0 < 0))] 65
            refine r_if_eqT C (y := 0) 70 dX6_runScript_65 (by decide) (z_eqB.mpr (by decide)) ?_
            refine r_aload_n C (i := 0) 2 dX6_runScript_70 rfl rfl ?_
            refine r_get C 0 3 uX6 rfl rfl (by decide) w_5_64 rfl dX6_runScript_71 ?_
            refine r_iconst C dX6_runScript_74 ki_0 ?_
            refine r_aload_n C (i := 0) 2 dX6_runScript_75 rfl rfl ?_
            refine r_get C 0 4 uX6 rfl rfl (by decide) w_5_65 rfl dX6_runScript_76 ?_
            refine r_iconst C dX6_runScript_79 ki_0 ?_
            refine r_callS (rest := []) C (c_X6_copyState__255_255 (q2 := x3) (q3 := x4) (fa := 0) (ta := 0) (F := g) (F2 := g4) (hf := (by omega)) (ht := (by omega))) lk_X6_copyState w_5_196 [4, 5] dX6_runScript_80 rfl rfl rfl ⟨by decide, by decide⟩ (Nat.le_of_ble_eq_true rfl) ?_
            rintro _ _ ⟨rfl, rfl⟩
            show ω [(hM, .inr (6, [.int (nI 0), .ref x1, .int (nI sz), .ref x3, .ref x4, .ref x5, .int (nI ac), .ref x7, .ref x8, .ref x9, .ref x10, .ref x11, .int (nI sp), .int (nI ou)])), (x9, .inl (eI E, 6, .inl t1)), (x10, .inl (eI E, 6, .inl t2)), (x11, .inl (eI E, 6, .inl t3)), (x3, .inl (eI E, 255, .inl g)), (x4, .inl (eI E, 255, .inl (va_cpy g g4 0 0 255)))] [(6, .int (nI n)), (4, .long (lN (100000 ^ n))), (0, .ref hM), (1, .int (nI n)), (2, .long (lN S))] [] 83
            have hcp6 : RepM σ (va_cpy g g4 0 0 255) := RepM_cp hR hW
            refine r_lo (lv' := [(6, .int (nI n)), (4, .long (lN (100000 ^ (n - 0)))), (0, .ref hM), (1, .int (nI n)), (2, .long (lN S))]) (by rw [show n - 0 = n from Nat.sub_zero n]) ?_
            refine r_iconst C dX6_runScript_83 ki_0 ?_
            refine r_istore C (lv' := [(6, .int (nI 0)), (4, .long (lN (100000 ^ (n - 0)))), (0, .ref hM), (1, .int (nI n)), (2, .long (lN S))]) dX6_runScript_84 (by decide) rfl ?_
            have loop86_7 : ∀ (dd9 : Nat) (j : Nat) (al : Nat) (s4 : Nat → Int32) (s1 : Nat → Int32) (s2 : Nat → Int32) (s3 : Nat → Int32), n - j < dd9 → (j ≤ n) → (al = 100000 ^ (n - j)) → (RepM (stS σ S n j) s4) → (Wf (stS σ S n j)) → (∀ i, i < j → srB σ S n i = false) → ω [(hM, .inr (6, [.int (nI 0), .ref x1, .int (nI sz), .ref x3, .ref x4, .ref x5, .int (nI ac), .ref x7, .ref x8, .ref x9, .ref x10, .ref x11, .int (nI sp), .int (nI ou)])), (x9, .inl (eI E, 6, .inl s1)), (x10, .inl (eI E, 6, .inl s2)), (x11, .inl (eI E, 6, .inl s3)), (x3, .inl (eI E, 255, .inl g)), (x4, .inl (eI E, 255, .inl s4))] [(6, .int (nI j)), (4, .long (lN al)), (0, .ref hM), (1, .int (nI n)), (2, .long (lN S))] [] 86 := by
              intro dd9
              induction dd9 with
              | zero => intro j al s4 s1 s2 s3 hd; exact absurd hd (Nat.not_lt_zero _)
              | succ dd9 ih8 =>
                intro j al s4 s1 s2 s3 hd hj hal2 hr4 hw4 hno
                have hgl : gk S n j < 100000 := Nat.mod_lt _ (by decide)
                have hpj := p5 (show n - j ≤ 3 by omega)
                have hpk := p5 (show n - 1 - j ≤ 3 by omega)
                have hdv := Nat.div_le_self S (100000 ^ (n - 1 - j))
                have hcl := cmN_le (stS σ S n j) (gk S n j / 10000) (gk S n j % 10000)
                refine r_iload C (i := 6) 0 dX6_runScript_86 rfl ?_
                refine r_iload_n C (i := 1) 3 dX6_runScript_88 rfl rfl ?_
                refine r_icmp_ge C (c9 := n ≤ j) 139 dX6_runScript_89 (by decide) (c_leNN (by omega) (by omega)) (fun h89_9 => ?_) (fun h89_9 => ?_)
                · refine r_iconst C dX6_runScript_139 ki_m1 ?_
                  exact RT.1 _ _ _ _ _ dX6_runScript_140 rfl rfl (⟨_, _, _, _, sv (congrArg mI (srN_n (fun i hi => hno i (by omega))).symm), rfl⟩) rfl
                · refine r_lo (lv' := [(6, .int (nI j)), (4, .long (lN (100000 ^ (n - j)))), (0, .ref hM), (1, .int (nI n)), (2, .long (lN S))]) (by rw [hal2]) ?_
                  refine r_lload C (i := 4) 1 dX6_runScript_92 rfl ?_
                  refine r_ldc2 (v := lN 100000) C dX6_runScript_94 w_6_143 ?_
                  refine r_ldiv (v := lN (100000 ^ (n - 1 - j))) C dX6_runScript_97 (l_nz (by decide) (by decide)) ((pk_lDiv (by omega) (by decide) (by decide)).trans (congrArg lN (p5d (by omega)))) ?_
                  refine r_lstore C (lv' := [(4, .long (lN (100000 ^ (n - 1 - j)))), (6, .int (nI j)), (0, .ref hM), (1, .int (nI n)), (2, .long (lN S))]) dX6_runScript_98 (by decide) rfl ?_
                  refine r_lload_n C (i := 2) 4 dX6_runScript_100 rfl rfl ?_
                  refine r_lload C (i := 4) 0 dX6_runScript_101 rfl ?_
                  refine r_ldiv (v := lN (S / 100000 ^ (n - 1 - j))) C dX6_runScript_103 (l_nzB (by omega) (by omega)) (pk_lDiv (by omega) (by omega) (by omega)) ?_
                  refine r_ldc2 (v := lN 100000) C dX6_runScript_104 w_6_143 ?_
                  refine r_lrem (v := lN (gk S n j)) C dX6_runScript_107 (l_nz (by decide) (by decide)) (pk_lRem (by omega) (by decide) (by decide)) ?_
                  refine r_l2i (v := nI (gk S n j)) C dX6_runScript_108 (v_l2i _) ?_
                  refine r_istore C (lv' := [(7, .int (nI (gk S n j))), (4, .long (lN (100000 ^ (n - 1 - j)))), (6, .int (nI j)), (0, .ref hM), (1, .int (nI n)), (2, .long (lN S))]) dX6_runScript_109 (by decide) rfl ?_
                  refine r_aload_n C (i := 0) 3 dX6_runScript_111 rfl rfl ?_
                  refine r_iload C (i := 7) 0 dX6_runScript_112 rfl ?_
                  refine r_sipush C dX6_runScript_114 ks_10000 ?_
                  refine r_idiv (v := nI ((gk S n j) / 10000)) C dX6_runScript_117 (v_nz (by omega) (by omega)) (v_div (by omega) (by omega) (by omega)) ?_
                  refine r_iload C (i := 7) 0 dX6_runScript_118 rfl ?_
                  refine r_sipush C dX6_runScript_120 ks_10000 ?_
                  refine r_irem (v := nI ((gk S n j) % 10000)) C dX6_runScript_123 (v_nz (by omega) (by omega)) (v_rem (by omega) (by omega) (by omega)) ?_
                  refine r_callV (rest := []) C (c_X6_command__all (hM := hM) (rf := 0) (x1 := x1) (sz := sz) (x3 := x3) (x4 := x4) (x5 := x5) (ac := ac) (x7 := x7) (x8 := x8) (x9 := x9) (x10 := x10) (x11 := x11) (sp := sp) (ou := ou) (t1 := s1) (t2 := s2) (t3 := s3) (g := s4) (σ := (stS σ S n j)) (how := (gk S n j) / 10000) (four := (gk S n j) % 10000) (hR := hr4) (hW := hw4) (hh := (by omega)) (hf := (by omega))) lk_X6_command w_6_144 [0, 1, 2, 3, 5] rfl dX6_runScript_124 rfl rfl rfl rfl ⟨by decide, by decide⟩ (Nat.le_of_ble_eq_true rfl) ?_
                  rintro _ _ ⟨ta_10, tb_11, tc_12, g_13, rfl, rfl, hR_14⟩
                  have hW_15 : Wf (cmS (stS σ S n j) ((gk S n j) / 10000) ((gk S n j) % 10000)) := cmS_wf hw4 ((gk S n j) / 10000) ((gk S n j) % 10000)
                  show ω [(hM, .inr (6, [.int (nI 0), .ref x1, .int (nI sz), .ref x3, .ref x4, .ref x5, .int (nI ac), .ref x7, .ref x8, .ref x9, .ref x10, .ref x11, .int (nI sp), .int (nI ou)])), (x9, .inl (eI E, 6, .inl ta_10)), (x10, .inl (eI E, 6, .inl tb_11)), (x11, .inl (eI E, 6, .inl tc_12)), (x3, .inl (eI E, 255, .inl g)), (x4, .inl (eI E, 255, .inl g_13))] [(7, .int (nI (gk S n j))), (4, .long (lN (100000 ^ (n - 1 - j)))), (6, .int (nI j)), (0, .ref hM), (1, .int (nI n)), (2, .long (lN S))] [.int (nI (cmN (stS σ S n j) ((gk S n j) / 10000) ((gk S n j) % 10000)))] 127
                  refine r_if_ne C (y := 0) (c9 := cmN (stS σ S n j) ((gk S n j) / 10000) ((gk S n j) % 10000) ≠ 0) 133 dX6_runScript_127 (by decide) (z_neN (by omega)) (fun h127_16 => ?_) (fun h127_16 => ?_)
                  · refine r_iinc C (lv' := [(6, .int (nI (j + 1))), (7, .int (nI (gk S n j))), (4, .long (lN (100000 ^ (n - 1 - j)))), (0, .ref hM), (1, .int (nI n)), (2, .long (lN S))]) (v := nI (j + 1)) 2 dX6_runScript_133 rfl (v_inc _) (by decide) rfl ?_
                    refine r_goto C 86 dX6_runScript_136 (by decide) ?_
                    refine r_lv (lv' := [(6, .int (nI (j + 1))), (4, .long (lN (100000 ^ (n - 1 - j)))), (0, .ref hM), (1, .int (nI n)), (2, .long (lN S))]) C [0, 2, 3, 4, 5] rfl ?_
                    exact ih8 (j + 1) (100000 ^ (n - 1 - j)) g_13 ta_10 tb_11 tc_12 (by omega) (by omega) (by rw [show n - 1 - j = n - (j + 1) from by omega]) hR_14 (stS_wf hW S n (j + 1)) (lt_step hno (decide_eq_false h127_16))
                  · refine r_iload C (i := 6) 2 dX6_runScript_130 rfl ?_
                    exact RT.1 _ _ _ _ _ dX6_runScript_132 rfl rfl (⟨_, _, _, _, sv ((mI_s _).symm.trans (congrArg mI (srN_y (by omega) (decide_eq_true (by omega)) hno).symm)), rfl⟩) rfl
            exact loop86_7 _ 0 (100000 ^ (n - 0)) (va_cpy g g4 0 0 255) t1 t2 t3 (Nat.lt_succ_self _) (by omega) rfl hcp6 hW (fun i hi => absurd hi (Nat.not_lt_zero i))
      · refine r_iload C (i := 6) 0 dX6_runScript_12 rfl ?_
        refine r_iconst C dX6_runScript_14 ki_3 ?_
        refine r_icmp_ge C (c9 := 3 ≤ k) 32 dX6_runScript_15 (by decide) (c_leNN (by omega) (by omega)) (fun h15_17 => ?_) (fun h15_17 => ?_)
        · refine r_lo (lv' := [(6, .int (nI n)), (4, .long (lN (100000 ^ n))), (0, .ref hM), (1, .int (nI n)), (2, .long (lN S))]) (by rw [hal, (by omega : k = n)]) ?_
          refine r_aload_n C (i := 0) 2 dX6_runScript_32 rfl rfl ?_
          refine r_iload_n C (i := 1) 3 dX6_runScript_33 rfl rfl ?_
          refine r_i2l (v := lN n) C dX6_runScript_34 (v_i2l (by omega)) ?_
          refine r_lconst (v := lN 1) C dX6_runScript_35 (by decide +kernel) ?_
          refine r_ldc2 (v := lN 3) C dX6_runScript_36 w_6_20 ?_
          refine r_readS (rest := [.ref hM]) C (c_X6_in (v := lN n) (lw := lN 1) (hg := lN 3)) lk_X6_in w_5_113 [] dX6_runScript_39 rfl rfl rfl ⟨by decide, by decide⟩ (Nat.le_of_ble_eq_true rfl) (st' := [.int (bP (lN 1 ≤ lN n ∧ lN n ≤ lN 3)), .ref hM]) rfl ?_
          refine r_st (st' := [.int (bP (1 ≤ n ∧ n ≤ 3)), .ref hM]) (by rw [bP_c (in_1N (by omega) (by omega))]) ?_
          refine r_if_eq C (y := 0) (c9 := ¬ (1 ≤ n ∧ n ≤ 3)) 61 dX6_runScript_42 (by decide) z_eqB (fun h42_18 => ?_) (fun h42_18 => ?_)
          · refine r_iconst C dX6_runScript_61 ki_1 ?_
            first | (exfalso; omega) | (exfalso; simp_all; done)
          · replace h42_18 : 1 ≤ n ∧ n ≤ 3 := Decidable.not_not.mp h42_18
            refine r_lload_n C (i := 2) 4 dX6_runScript_45 rfl rfl ?_
            refine r_lconst (v := lN 0) C dX6_runScript_46 (by decide +kernel) ?_
            refine r_lload C (i := 4) 1 dX6_runScript_47 rfl ?_
            refine r_lconst (v := lN 1) C dX6_runScript_49 (by decide +kernel) ?_
            refine r_lsub (v := lN (100000 ^ n - 1)) C dX6_runScript_50 (lN_sub (by omega)) ?_
            refine r_readS (rest := [.ref hM]) C (c_X6_in (v := lN S) (lw := lN 0) (hg := lN (100000 ^ n - 1))) lk_X6_in w_5_113 [] dX6_runScript_51 rfl rfl rfl ⟨by decide, by decide⟩ (Nat.le_of_ble_eq_true rfl) (st' := [.int (bP (lN 0 ≤ lN S ∧ lN S ≤ lN (100000 ^ n - 1))), .ref hM]) rfl ?_
            refine r_st (st' := [.int (bP (S ≤ 100000 ^ n - 1)), .ref hM]) (by rw [bP_c (in_NB (by omega) (by omega))]) ?_
            refine r_if_eq C (y := 0) (c9 := ¬ (S ≤ 100000 ^ n - 1)) 61 dX6_runScript_54 (by decide) z_eqB (fun h54_19 => ?_) (fun h54_19 => ?_)
            · refine r_iconst C dX6_runScript_61 ki_1 ?_
              first | (exfalso; omega) | (exfalso; simp_all; done)
            · replace h54_19 : S ≤ 100000 ^ n - 1 := Decidable.not_not.mp h54_19
              refine r_iconst C dX6_runScript_57 ki_0 ?_
              refine r_goto C 62 dX6_runScript_58 (by decide) ?_
              refine r_callV (rest := []) C (c_X6_refused (hM := hM) (rf := rf) (x1 := x1) (sz := sz) (x3 := x3) (x4 := x4) (x5 := x5) (ac := ac) (x7 := x7) (x8 := x8) (x9 := x9) (x10 := x10) (x11 := x11) (sp := sp) (ou := ou) (w := 0) (hw := (by omega))) lk_X6_refused w_5_116 [0] rfl dX6_runScript_62 rfl rfl rfl rfl ⟨by decide, by decide⟩ (Nat.le_of_ble_eq_true rfl) ?_
              rintro _ _ ⟨rfl, rfl⟩
              show ω [(hM, .inr (6, [.int (nI 0), .ref x1, .int (nI sz), .ref x3, .ref x4, .ref x5, .int (nI ac), .ref x7, .ref x8, .ref x9, .ref x10, .ref x11, .int (nI sp), .int (nI ou)])), (x9, .inl (eI E, 6, .inl t1)), (x10, .inl (eI E, 6, .inl t2)), (x11, .inl (eI E, 6, .inl t3)), (x3, .inl (eI E, 255, .inl g)), (x4, .inl (eI E, 255, .inl g4))] [(6, .int (nI n)), (4, .long (lN (100000 ^ n))), (0, .ref hM), (1, .int (nI n)), (2, .long (lN S))] [.int (bP (0 < 0))] 65
              refine r_if_eqT C (y := 0) 70 dX6_runScript_65 (by decide) (z_eqB.mpr (by decide)) ?_
              refine r_aload_n C (i := 0) 2 dX6_runScript_70 rfl rfl ?_
              refine r_get C 0 3 uX6 rfl rfl (by decide) w_5_64 rfl dX6_runScript_71 ?_
              refine r_iconst C dX6_runScript_74 ki_0 ?_
              refine r_aload_n C (i := 0) 2 dX6_runScript_75 rfl rfl ?_
              refine r_get C 0 4 uX6 rfl rfl (by decide) w_5_65 rfl dX6_runScript_76 ?_
              refine r_iconst C dX6_runScript_79 ki_0 ?_
              refine r_callS (rest := []) C (c_X6_copyState__255_255 (q2 := x3) (q3 := x4) (fa := 0) (ta := 0) (F := g) (F2 := g4) (hf := (by omega)) (ht := (by omega))) lk_X6_copyState w_5_196 [4, 5] dX6_runScript_80 rfl rfl rfl ⟨by decide, by decide⟩ (Nat.le_of_ble_eq_true rfl) ?_
              rintro _ _ ⟨rfl, rfl⟩
              show ω [(hM, .inr (6, [.int (nI 0), .ref x1, .int (nI sz), .ref x3, .ref x4, .ref x5, .int (nI ac), .ref x7, .ref x8, .ref x9, .ref x10, .ref x11, .int (nI sp), .int (nI ou)])), (x9, .inl (eI E, 6, .inl t1)), (x10, .inl (eI E, 6, .inl t2)), (x11, .inl (eI E, 6, .inl t3)), (x3, .inl (eI E, 255, .inl g)), (x4, .inl (eI E, 255, .inl (va_cpy g g4 0 0 255)))] [(6, .int (nI n)), (4, .long (lN (100000 ^ n))), (0, .ref hM), (1, .int (nI n)), (2, .long (lN S))] [] 83
              have hcp20 : RepM σ (va_cpy g g4 0 0 255) := RepM_cp hR hW
              refine r_lo (lv' := [(6, .int (nI n)), (4, .long (lN (100000 ^ (n - 0)))), (0, .ref hM), (1, .int (nI n)), (2, .long (lN S))]) (by rw [show n - 0 = n from Nat.sub_zero n]) ?_
              refine r_iconst C dX6_runScript_83 ki_0 ?_
              refine r_istore C (lv' := [(6, .int (nI 0)), (4, .long (lN (100000 ^ (n - 0)))), (0, .ref hM), (1, .int (nI n)), (2, .long (lN S))]) dX6_runScript_84 (by decide) rfl ?_
              have loop86_21 : ∀ (dd9 : Nat) (j : Nat) (al : Nat) (s4 : Nat → Int32) (s1 : Nat → Int32) (s2 : Nat → Int32) (s3 : Nat → Int32), n - j < dd9 → (j ≤ n) → (al = 100000 ^ (n - j)) → (RepM (stS σ S n j) s4) → (Wf (stS σ S n j)) → (∀ i, i < j → srB σ S n i = false) → ω [(hM, .inr (6, [.int (nI 0), .ref x1, .int (nI sz), .ref x3, .ref x4, .ref x5, .int (nI ac), .ref x7, .ref x8, .ref x9, .ref x10, .ref x11, .int (nI sp), .int (nI ou)])), (x9, .inl (eI E, 6, .inl s1)), (x10, .inl (eI E, 6, .inl s2)), (x11, .inl (eI E, 6, .inl s3)), (x3, .inl (eI E, 255, .inl g)), (x4, .inl (eI E, 255, .inl s4))] [(6, .int (nI j)), (4, .long (lN al)), (0, .ref hM), (1, .int (nI n)), (2, .long (lN S))] [] 86 := by
                intro dd9
                induction dd9 with
                | zero => intro j al s4 s1 s2 s3 hd; exact absurd hd (Nat.not_lt_zero _)
                | succ dd9 ih22 =>
                  intro j al s4 s1 s2 s3 hd hj hal2 hr4 hw4 hno
                  have hgl : gk S n j < 100000 := Nat.mod_lt _ (by decide)
                  have hpj := p5 (show n - j ≤ 3 by omega)
                  have hpk := p5 (show n - 1 - j ≤ 3 by omega)
                  have hdv := Nat.div_le_self S (100000 ^ (n - 1 - j))
                  have hcl := cmN_le (stS σ S n j) (gk S n j / 10000) (gk S n j % 10000)
                  refine r_iload C (i := 6) 0 dX6_runScript_86 rfl ?_
                  refine r_iload_n C (i := 1) 3 dX6_runScript_88 rfl rfl ?_
                  refine r_icmp_ge C (c9 := n ≤ j) 139 dX6_runScript_89 (by decide) (c_leNN (by omega) (by omega)) (fun h89_23 => ?_) (fun h89_23 => ?_)
                  · refine r_iconst C dX6_runScript_139 ki_m1 ?_
                    exact RT.1 _ _ _ _ _ dX6_runScript_140 rfl rfl (⟨_, _, _, _, sv (congrArg mI (srN_n (fun i hi => hno i (by omega))).symm), rfl⟩) rfl
                  · refine r_lo (lv' := [(6, .int (nI j)), (4, .long (lN (100000 ^ (n - j)))), (0, .ref hM), (1, .int (nI n)), (2, .long (lN S))]) (by rw [hal2]) ?_
                    refine r_lload C (i := 4) 1 dX6_runScript_92 rfl ?_
                    refine r_ldc2 (v := lN 100000) C dX6_runScript_94 w_6_143 ?_
                    refine r_ldiv (v := lN (100000 ^ (n - 1 - j))) C dX6_runScript_97 (l_nz (by decide) (by decide)) ((pk_lDiv (by omega) (by decide) (by decide)).trans (congrArg lN (p5d (by omega)))) ?_
                    refine r_lstore C (lv' := [(4, .long (lN (100000 ^ (n - 1 - j)))), (6, .int (nI j)), (0, .ref hM), (1, .int (nI n)), (2, .long (lN S))]) dX6_runScript_98 (by decide) rfl ?_
                    refine r_lload_n C (i := 2) 4 dX6_runScript_100 rfl rfl ?_
                    refine r_lload C (i := 4) 0 dX6_runScript_101 rfl ?_
                    refine r_ldiv (v := lN (S / 100000 ^ (n - 1 - j))) C dX6_runScript_103 (l_nzB (by omega) (by omega)) (pk_lDiv (by omega) (by omega) (by omega)) ?_
                    refine r_ldc2 (v := lN 100000) C dX6_runScript_104 w_6_143 ?_
                    refine r_lrem (v := lN (gk S n j)) C dX6_runScript_107 (l_nz (by decide) (by decide)) (pk_lRem (by omega) (by decide) (by decide)) ?_
                    refine r_l2i (v := nI (gk S n j)) C dX6_runScript_108 (v_l2i _) ?_
                    refine r_istore C (lv' := [(7, .int (nI (gk S n j))), (4, .long (lN (100000 ^ (n - 1 - j)))), (6, .int (nI j)), (0, .ref hM), (1, .int (nI n)), (2, .long (lN S))]) dX6_runScript_109 (by decide) rfl ?_
                    refine r_aload_n C (i := 0) 3 dX6_runScript_111 rfl rfl ?_
                    refine r_iload C (i := 7) 0 dX6_runScript_112 rfl ?_
                    refine r_sipush C dX6_runScript_114 ks_10000 ?_
                    refine r_idiv (v := nI ((gk S n j) / 10000)) C dX6_runScript_117 (v_nz (by omega) (by omega)) (v_div (by omega) (by omega) (by omega)) ?_
                    refine r_iload C (i := 7) 0 dX6_runScript_118 rfl ?_
                    refine r_sipush C dX6_runScript_120 ks_10000 ?_
                    refine r_irem (v := nI ((gk S n j) % 10000)) C dX6_runScript_123 (v_nz (by omega) (by omega)) (v_rem (by omega) (by omega) (by omega)) ?_
                    refine r_callV (rest := []) C (c_X6_command__all (hM := hM) (rf := 0) (x1 := x1) (sz := sz) (x3 := x3) (x4 := x4) (x5 := x5) (ac := ac) (x7 := x7) (x8 := x8) (x9 := x9) (x10 := x10) (x11 := x11) (sp := sp) (ou := ou) (t1 := s1) (t2 := s2) (t3 := s3) (g := s4) (σ := (stS σ S n j)) (how := (gk S n j) / 10000) (four := (gk S n j) % 10000) (hR := hr4) (hW := hw4) (hh := (by omega)) (hf := (by omega))) lk_X6_command w_6_144 [0, 1, 2, 3, 5] rfl dX6_runScript_124 rfl rfl rfl rfl ⟨by decide, by decide⟩ (Nat.le_of_ble_eq_true rfl) ?_
                    rintro _ _ ⟨ta_24, tb_25, tc_26, g_27, rfl, rfl, hR_28⟩
                    have hW_29 : Wf (cmS (stS σ S n j) ((gk S n j) / 10000) ((gk S n j) % 10000)) := cmS_wf hw4 ((gk S n j) / 10000) ((gk S n j) % 10000)
                    show ω [(hM, .inr (6, [.int (nI 0), .ref x1, .int (nI sz), .ref x3, .ref x4, .ref x5, .int (nI ac), .ref x7, .ref x8, .ref x9, .ref x10, .ref x11, .int (nI sp), .int (nI ou)])), (x9, .inl (eI E, 6, .inl ta_24)), (x10, .inl (eI E, 6, .inl tb_25)), (x11, .inl (eI E, 6, .inl tc_26)), (x3, .inl (eI E, 255, .inl g)), (x4, .inl (eI E, 255, .inl g_27))] [(7, .int (nI (gk S n j))), (4, .long (lN (100000 ^ (n - 1 - j)))), (6, .int (nI j)), (0, .ref hM), (1, .int (nI n)), (2, .long (lN S))] [.int (nI (cmN (stS σ S n j) ((gk S n j) / 10000) ((gk S n j) % 10000)))] 127
                    refine r_if_ne C (y := 0) (c9 := cmN (stS σ S n j) ((gk S n j) / 10000) ((gk S n j) % 10000) ≠ 0) 133 dX6_runScript_127 (by decide) (z_neN (by omega)) (fun h127_30 => ?_) (fun h127_30 => ?_)
                    · refine r_iinc C (lv' := [(6, .int (nI (j + 1))), (7, .int (nI (gk S n j))), (4, .long (lN (100000 ^ (n - 1 - j)))), (0, .ref hM), (1, .int (nI n)), (2, .long (lN S))]) (v := nI (j + 1)) 2 dX6_runScript_133 rfl (v_inc _) (by decide) rfl ?_
                      refine r_goto C 86 dX6_runScript_136 (by decide) ?_
                      refine r_lv (lv' := [(6, .int (nI (j + 1))), (4, .long (lN (100000 ^ (n - 1 - j)))), (0, .ref hM), (1, .int (nI n)), (2, .long (lN S))]) C [0, 2, 3, 4, 5] rfl ?_
                      exact ih22 (j + 1) (100000 ^ (n - 1 - j)) g_27 ta_24 tb_25 tc_26 (by omega) (by omega) (by rw [show n - 1 - j = n - (j + 1) from by omega]) hR_28 (stS_wf hW S n (j + 1)) (lt_step hno (decide_eq_false h127_30))
                    · refine r_iload C (i := 6) 2 dX6_runScript_130 rfl ?_
                      exact RT.1 _ _ _ _ _ dX6_runScript_132 rfl rfl (⟨_, _, _, _, sv ((mI_s _).symm.trans (congrArg mI (srN_y (by omega) (decide_eq_true (by omega)) hno).symm)), rfl⟩) rfl
              exact loop86_21 _ 0 (100000 ^ (n - 0)) (va_cpy g g4 0 0 255) t1 t2 t3 (Nat.lt_succ_self _) (by omega) rfl hcp20 hW (fun i hi => absurd hi (Nat.not_lt_zero i))
        · refine r_lload C (i := 4) 1 dX6_runScript_18 rfl ?_
          refine r_ldc2 (v := lN 100000) C dX6_runScript_20 w_6_143 ?_
          refine r_lmul (v := lN (al * 100000)) C dX6_runScript_23 (lN_mul _ _) ?_
          refine r_lstore C (lv' := [(4, .long (lN (al * 100000))), (6, .int (nI k)), (0, .ref hM), (1, .int (nI n)), (2, .long (lN S))]) dX6_runScript_24 (by decide) rfl ?_
          refine r_iinc C (lv' := [(6, .int (nI (k + 1))), (4, .long (lN (al * 100000))), (0, .ref hM), (1, .int (nI n)), (2, .long (lN S))]) (v := nI (k + 1)) 1 dX6_runScript_26 rfl (v_inc _) (by decide) rfl ?_
          refine r_goto C 6 dX6_runScript_29 (by decide) ?_
          exact ih2 (k + 1) (al * 100000) (by omega) (by omega) (by rw [hal, Nat.pow_succ])
  exact loop6_1 _ 0 1 (Nat.lt_succ_self _) (by omega) rfl
set_option maxRecDepth 100000 in
set_option maxHeartbeats 1000000 in
theorem c_X6_runScript__x1 {l : Launch} {E : Ev} {hM rf x1 sz x3 x4 x5 ac x7 x8 x9 x10 x11 sp ou : Nat} {g : Nat → Int32} {σ : Sg} (hR : RepM σ g) (hW : Wf σ) {n : Int32} {z : Int64} (hx : ¬ vJ n 3) : Ct l E yX6_runScript cX6_runScript 8 (some FieldType.int) 6 151 [.ref hM, .int n, .long z] [(hM, .inr (6, [.int (nI rf), .ref x1, .int (nI sz), .ref x3, .ref x4, .ref x5, .int (nI ac), .ref x7, .ref x8, .ref x9, .ref x10, .ref x11, .int (nI sp), .int (nI ou)])), (x3, .inl (eI E, 255, .inl g))] (fun v9 w9 => v9 = some (.int (nI 0)) ∧ w9 = [(hM, .inr (6, [.int (nI 1), .ref x1, .int (nI sz), .ref x3, .ref x4, .ref x5, .int (nI ac), .ref x7, .ref x8, .ref x9, .ref x10, .ref x11, .int (nI sp), .int (nI ou)])), (x3, .inl (eI E, 255, .inl g))]) := by
  have hwP := hW.P
  have hwA := hW.A
  have hwS := hW.S
  refine ct_of (by decide +kernel) (Nat.le_of_ble_eq_true rfl) (fun ω C RT => ?_)
  show ω [(hM, .inr (6, [.int (nI rf), .ref x1, .int (nI sz), .ref x3, .ref x4, .ref x5, .int (nI ac), .ref x7, .ref x8, .ref x9, .ref x10, .ref x11, .int (nI sp), .int (nI ou)])), (x3, .inl (eI E, 255, .inl g))] [(0, .ref hM), (1, .int n), (2, .long z)] [] 0
  refine r_lconst (v := lN 1) C dX6_runScript_0 (by decide +kernel) ?_
  refine r_lstore C (lv' := [(4, .long (lN 1)), (0, .ref hM), (1, .int n), (2, .long z)]) dX6_runScript_1 (by decide) rfl ?_
  refine r_iconst C dX6_runScript_3 ki_0 ?_
  refine r_istore C (lv' := [(6, .int (nI 0)), (4, .long (lN 1)), (0, .ref hM), (1, .int n), (2, .long z)]) dX6_runScript_4 (by decide) rfl ?_
  have loop6_1 : ∀ (dd9 : Nat) (k : Nat) (al : Int64), 3 - k < dd9 → (k ≤ 3) → (al = lN (100000 ^ k)) → ω [(hM, .inr (6, [.int (nI rf), .ref x1, .int (nI sz), .ref x3, .ref x4, .ref x5, .int (nI ac), .ref x7, .ref x8, .ref x9, .ref x10, .ref x11, .int (nI sp), .int (nI ou)])), (x3, .inl (eI E, 255, .inl g))] [(6, .int (nI k)), (4, .long al), (0, .ref hM), (1, .int n), (2, .long z)] [] 6 := by
    intro dd9
    induction dd9 with
    | zero => intro k al hd; exact absurd hd (Nat.not_lt_zero _)
    | succ dd9 ih2 =>
      intro k al hd hk hal
      refine r_iload C (i := 6) 0 dX6_runScript_6 rfl ?_
      refine r_iload_n C (i := 1) 3 dX6_runScript_8 rfl rfl ?_
      refine r_icmp_ge C (c9 := n ≤ nI k) 32 dX6_runScript_9 (by decide) Iff.rfl (fun h9_3 => ?_) (fun h9_3 => ?_)
      · refine r_aload_n C (i := 0) 2 dX6_runScript_32 rfl rfl ?_
        refine r_iload_n C (i := 1) 3 dX6_runScript_33 rfl rfl ?_
        refine r_i2l (v := (n).toInt64) C dX6_runScript_34 rfl ?_
        refine r_lconst (v := lN 1) C dX6_runScript_35 (by decide +kernel) ?_
        refine r_ldc2 (v := lN 3) C dX6_runScript_36 w_6_20 ?_
        refine r_readS (rest := [.ref hM]) C (c_X6_in (v := (n).toInt64) (lw := lN 1) (hg := lN 3)) lk_X6_in w_5_113 [] dX6_runScript_39 rfl rfl rfl ⟨by decide, by decide⟩ (Nat.le_of_ble_eq_true rfl) (st' := [.int (bP (lN 1 ≤ (n).toInt64 ∧ (n).toInt64 ≤ lN 3)), .ref hM]) rfl ?_
        refine r_st (st' := [.int (bP (vJ n 3)), .ref hM]) (by rw [bP_c (in_1r (by omega))]) ?_
        refine r_if_eq C (y := 0) (c9 := ¬ (vJ n 3)) 61 dX6_runScript_42 (by decide) z_eqB (fun h42_4 => ?_) (fun h42_4 => ?_)
        · refine r_iconst C dX6_runScript_61 ki_1 ?_
          refine r_callV (rest := []) C (c_X6_refused (hM := hM) (rf := rf) (x1 := x1) (sz := sz) (x3 := x3) (x4 := x4) (x5 := x5) (ac := ac) (x7 := x7) (x8 := x8) (x9 := x9) (x10 := x10) (x11 := x11) (sp := sp) (ou := ou) (w := 1) (hw := (by omega))) lk_X6_refused w_5_116 [0] rfl dX6_runScript_62 rfl rfl rfl rfl ⟨by decide, by decide⟩ (Nat.le_of_ble_eq_true rfl) ?_
          rintro _ _ ⟨rfl, rfl⟩
          show ω [(hM, .inr (6, [.int (nI 1), .ref x1, .int (nI sz), .ref x3, .ref x4, .ref x5, .int (nI ac), .ref x7, .ref x8, .ref x9, .ref x10, .ref x11, .int (nI sp), .int (nI ou)])), (x3, .inl (eI E, 255, .inl g))] [(6, .int (nI k)), (4, .long al), (0, .ref hM), (1, .int n), (2, .long z)] [.int (bP (0 < 1))] 65
          refine r_if_eqF C (y := 0) (tgt := 70) dX6_runScript_65 (by decide) (fun z => ((by decide) : ¬ (¬ (0 < 1))) (z_eqB.mp z)) ?_
          refine r_iconst C dX6_runScript_68 ki_0 ?_
          exact RT.1 _ _ _ _ _ dX6_runScript_69 rfl rfl (⟨rfl, rfl⟩) rfl
        · replace h42_4 : vJ n 3 := Decidable.not_not.mp h42_4
          exact absurd h42_4 hx
      · refine r_iload C (i := 6) 0 dX6_runScript_12 rfl ?_
        refine r_iconst C dX6_runScript_14 ki_3 ?_
        refine r_icmp_ge C (c9 := 3 ≤ k) 32 dX6_runScript_15 (by decide) (c_leNN (by omega) (by omega)) (fun h15_5 => ?_) (fun h15_5 => ?_)
        · refine r_aload_n C (i := 0) 2 dX6_runScript_32 rfl rfl ?_
          refine r_iload_n C (i := 1) 3 dX6_runScript_33 rfl rfl ?_
          refine r_i2l (v := (n).toInt64) C dX6_runScript_34 rfl ?_
          refine r_lconst (v := lN 1) C dX6_runScript_35 (by decide +kernel) ?_
          refine r_ldc2 (v := lN 3) C dX6_runScript_36 w_6_20 ?_
          refine r_readS (rest := [.ref hM]) C (c_X6_in (v := (n).toInt64) (lw := lN 1) (hg := lN 3)) lk_X6_in w_5_113 [] dX6_runScript_39 rfl rfl rfl ⟨by decide, by decide⟩ (Nat.le_of_ble_eq_true rfl) (st' := [.int (bP (lN 1 ≤ (n).toInt64 ∧ (n).toInt64 ≤ lN 3)), .ref hM]) rfl ?_
          refine r_st (st' := [.int (bP (vJ n 3)), .ref hM]) (by rw [bP_c (in_1r (by omega))]) ?_
          refine r_if_eq C (y := 0) (c9 := ¬ (vJ n 3)) 61 dX6_runScript_42 (by decide) z_eqB (fun h42_6 => ?_) (fun h42_6 => ?_)
          · refine r_iconst C dX6_runScript_61 ki_1 ?_
            refine r_callV (rest := []) C (c_X6_refused (hM := hM) (rf := rf) (x1 := x1) (sz := sz) (x3 := x3) (x4 := x4) (x5 := x5) (ac := ac) (x7 := x7) (x8 := x8) (x9 := x9) (x10 := x10) (x11 := x11) (sp := sp) (ou := ou) (w := 1) (hw := (by omega))) lk_X6_refused w_5_116 [0] rfl dX6_runScript_62 rfl rfl rfl rfl ⟨by decide, by decide⟩ (Nat.le_of_ble_eq_true rfl) ?_
            rintro _ _ ⟨rfl, rfl⟩
            show ω [(hM, .inr (6, [.int (nI 1), .ref x1, .int (nI sz), .ref x3, .ref x4, .ref x5, .int (nI ac), .ref x7, .ref x8, .ref x9, .ref x10, .ref x11, .int (nI sp), .int (nI ou)])), (x3, .inl (eI E, 255, .inl g))] [(6, .int (nI k)), (4, .long al), (0, .ref hM), (1, .int n), (2, .long z)] [.int (bP (0 < 1))] 65
            refine r_if_eqF C (y := 0) (tgt := 70) dX6_runScript_65 (by decide) (fun z => ((by decide) : ¬ (¬ (0 < 1))) (z_eqB.mp z)) ?_
            refine r_iconst C dX6_runScript_68 ki_0 ?_
            exact RT.1 _ _ _ _ _ dX6_runScript_69 rfl rfl (⟨rfl, rfl⟩) rfl
          · replace h42_6 : vJ n 3 := Decidable.not_not.mp h42_6
            exact absurd h42_6 hx
        · refine r_lload C (i := 4) 1 dX6_runScript_18 rfl ?_
          refine r_ldc2 (v := lN 100000) C dX6_runScript_20 w_6_143 ?_
          refine r_lmul (v := al * lN 100000) C dX6_runScript_23 rfl ?_
          refine r_lstore C (lv' := [(4, .long (al * lN 100000)), (6, .int (nI k)), (0, .ref hM), (1, .int n), (2, .long z)]) dX6_runScript_24 (by decide) rfl ?_
          refine r_iinc C (lv' := [(6, .int (nI (k + 1))), (4, .long (al * lN 100000)), (0, .ref hM), (1, .int n), (2, .long z)]) (v := nI (k + 1)) 1 dX6_runScript_26 rfl (v_inc _) (by decide) rfl ?_
          refine r_goto C 6 dX6_runScript_29 (by decide) ?_
          exact ih2 (k + 1) (al * lN 100000) (by omega) (by omega) (by rw [hal, lN_mul, Nat.pow_succ])
  exact loop6_1 _ 0 (lN 1) (Nat.lt_succ_self _) (by omega) rfl
set_option maxRecDepth 100000 in
set_option maxHeartbeats 1000000 in
theorem c_X6_runScript__x2 {l : Launch} {E : Ev} {hM rf x1 sz x3 x4 x5 ac x7 x8 x9 x10 x11 sp ou : Nat} {g : Nat → Int32} {σ : Sg} (hR : RepM σ g) (hW : Wf σ) {n : Nat} {z : Int64} (hn : 1 ≤ n ∧ n ≤ 3) (hx : ¬ (lN 0 ≤ z ∧ z ≤ lN (100000 ^ n - 1))) : Ct l E yX6_runScript cX6_runScript 8 (some FieldType.int) 6 151 [.ref hM, .int (nI n), .long z] [(hM, .inr (6, [.int (nI rf), .ref x1, .int (nI sz), .ref x3, .ref x4, .ref x5, .int (nI ac), .ref x7, .ref x8, .ref x9, .ref x10, .ref x11, .int (nI sp), .int (nI ou)])), (x3, .inl (eI E, 255, .inl g))] (fun v9 w9 => v9 = some (.int (nI 0)) ∧ w9 = [(hM, .inr (6, [.int (nI 1), .ref x1, .int (nI sz), .ref x3, .ref x4, .ref x5, .int (nI ac), .ref x7, .ref x8, .ref x9, .ref x10, .ref x11, .int (nI sp), .int (nI ou)])), (x3, .inl (eI E, 255, .inl g))]) := by
  have hwP := hW.P
  have hwA := hW.A
  have hwS := hW.S
  have hp3 := p5 hn.2
  refine ct_of (by decide +kernel) (Nat.le_of_ble_eq_true rfl) (fun ω C RT => ?_)
  show ω [(hM, .inr (6, [.int (nI rf), .ref x1, .int (nI sz), .ref x3, .ref x4, .ref x5, .int (nI ac), .ref x7, .ref x8, .ref x9, .ref x10, .ref x11, .int (nI sp), .int (nI ou)])), (x3, .inl (eI E, 255, .inl g))] [(0, .ref hM), (1, .int (nI n)), (2, .long z)] [] 0
  refine r_lconst (v := lN 1) C dX6_runScript_0 (by decide +kernel) ?_
  refine r_lstore C (lv' := [(4, .long (lN 1)), (0, .ref hM), (1, .int (nI n)), (2, .long z)]) dX6_runScript_1 (by decide) rfl ?_
  refine r_iconst C dX6_runScript_3 ki_0 ?_
  refine r_istore C (lv' := [(6, .int (nI 0)), (4, .long (lN 1)), (0, .ref hM), (1, .int (nI n)), (2, .long z)]) dX6_runScript_4 (by decide) rfl ?_
  have loop6_1 : ∀ (dd9 : Nat) (k : Nat) (al : Nat), n - k < dd9 → (k ≤ n) → (al = 100000 ^ k) → ω [(hM, .inr (6, [.int (nI rf), .ref x1, .int (nI sz), .ref x3, .ref x4, .ref x5, .int (nI ac), .ref x7, .ref x8, .ref x9, .ref x10, .ref x11, .int (nI sp), .int (nI ou)])), (x3, .inl (eI E, 255, .inl g))] [(6, .int (nI k)), (4, .long (lN al)), (0, .ref hM), (1, .int (nI n)), (2, .long z)] [] 6 := by
    intro dd9
    induction dd9 with
    | zero => intro k al hd; exact absurd hd (Nat.not_lt_zero _)
    | succ dd9 ih2 =>
      intro k al hd hk hal
      refine r_iload C (i := 6) 0 dX6_runScript_6 rfl ?_
      refine r_iload_n C (i := 1) 3 dX6_runScript_8 rfl rfl ?_
      refine r_icmp_ge C (c9 := n ≤ k) 32 dX6_runScript_9 (by decide) (c_leNN (by omega) (by omega)) (fun h9_3 => ?_) (fun h9_3 => ?_)
      · refine r_lo (lv' := [(6, .int (nI n)), (4, .long (lN (100000 ^ n))), (0, .ref hM), (1, .int (nI n)), (2, .long z)]) (by rw [hal, (by omega : k = n)]) ?_
        refine r_aload_n C (i := 0) 2 dX6_runScript_32 rfl rfl ?_
        refine r_iload_n C (i := 1) 3 dX6_runScript_33 rfl rfl ?_
        refine r_i2l (v := lN n) C dX6_runScript_34 (v_i2l (by omega)) ?_
        refine r_lconst (v := lN 1) C dX6_runScript_35 (by decide +kernel) ?_
        refine r_ldc2 (v := lN 3) C dX6_runScript_36 w_6_20 ?_
        refine r_readS (rest := [.ref hM]) C (c_X6_in (v := lN n) (lw := lN 1) (hg := lN 3)) lk_X6_in w_5_113 [] dX6_runScript_39 rfl rfl rfl ⟨by decide, by decide⟩ (Nat.le_of_ble_eq_true rfl) (st' := [.int (bP (lN 1 ≤ lN n ∧ lN n ≤ lN 3)), .ref hM]) rfl ?_
        refine r_st (st' := [.int (bP (1 ≤ n ∧ n ≤ 3)), .ref hM]) (by rw [bP_c (in_1N (by omega) (by omega))]) ?_
        refine r_if_eq C (y := 0) (c9 := ¬ (1 ≤ n ∧ n ≤ 3)) 61 dX6_runScript_42 (by decide) z_eqB (fun h42_4 => ?_) (fun h42_4 => ?_)
        · refine r_iconst C dX6_runScript_61 ki_1 ?_
          refine r_callV (rest := []) C (c_X6_refused (hM := hM) (rf := rf) (x1 := x1) (sz := sz) (x3 := x3) (x4 := x4) (x5 := x5) (ac := ac) (x7 := x7) (x8 := x8) (x9 := x9) (x10 := x10) (x11 := x11) (sp := sp) (ou := ou) (w := 1) (hw := (by omega))) lk_X6_refused w_5_116 [0] rfl dX6_runScript_62 rfl rfl rfl rfl ⟨by decide, by decide⟩ (Nat.le_of_ble_eq_true rfl) ?_
          rintro _ _ ⟨rfl, rfl⟩
          show ω [(hM, .inr (6, [.int (nI 1), .ref x1, .int (nI sz), .ref x3, .ref x4, .ref x5, .int (nI ac), .ref x7, .ref x8, .ref x9, .ref x10, .ref x11, .int (nI sp), .int (nI ou)])), (x3, .inl (eI E, 255, .inl g))] [(6, .int (nI n)), (4, .long (lN (100000 ^ n))), (0, .ref hM), (1, .int (nI n)), (2, .long z)] [.int (bP (0 < 1))] 65
          refine r_if_eqF C (y := 0) (tgt := 70) dX6_runScript_65 (by decide) (fun z => ((by decide) : ¬ (¬ (0 < 1))) (z_eqB.mp z)) ?_
          refine r_iconst C dX6_runScript_68 ki_0 ?_
          exact RT.1 _ _ _ _ _ dX6_runScript_69 rfl rfl (⟨rfl, rfl⟩) rfl
        · replace h42_4 : 1 ≤ n ∧ n ≤ 3 := Decidable.not_not.mp h42_4
          refine r_lload_n C (i := 2) 4 dX6_runScript_45 rfl rfl ?_
          refine r_lconst (v := lN 0) C dX6_runScript_46 (by decide +kernel) ?_
          refine r_lload C (i := 4) 1 dX6_runScript_47 rfl ?_
          refine r_lconst (v := lN 1) C dX6_runScript_49 (by decide +kernel) ?_
          refine r_lsub (v := lN (100000 ^ n - 1)) C dX6_runScript_50 (lN_sub (by omega)) ?_
          refine r_readS (rest := [.ref hM]) C (c_X6_in (v := z) (lw := lN 0) (hg := lN (100000 ^ n - 1))) lk_X6_in w_5_113 [] dX6_runScript_51 rfl rfl rfl ⟨by decide, by decide⟩ (Nat.le_of_ble_eq_true rfl) (st' := [.int (bP (lN 0 ≤ z ∧ z ≤ lN (100000 ^ n - 1))), .ref hM]) rfl ?_
          refine r_if_eq C (y := 0) (c9 := ¬ (lN 0 ≤ z ∧ z ≤ lN (100000 ^ n - 1))) 61 dX6_runScript_54 (by decide) z_eqB (fun h54_5 => ?_) (fun h54_5 => ?_)
          · refine r_iconst C dX6_runScript_61 ki_1 ?_
            refine r_callV (rest := []) C (c_X6_refused (hM := hM) (rf := rf) (x1 := x1) (sz := sz) (x3 := x3) (x4 := x4) (x5 := x5) (ac := ac) (x7 := x7) (x8 := x8) (x9 := x9) (x10 := x10) (x11 := x11) (sp := sp) (ou := ou) (w := 1) (hw := (by omega))) lk_X6_refused w_5_116 [0] rfl dX6_runScript_62 rfl rfl rfl rfl ⟨by decide, by decide⟩ (Nat.le_of_ble_eq_true rfl) ?_
            rintro _ _ ⟨rfl, rfl⟩
            show ω [(hM, .inr (6, [.int (nI 1), .ref x1, .int (nI sz), .ref x3, .ref x4, .ref x5, .int (nI ac), .ref x7, .ref x8, .ref x9, .ref x10, .ref x11, .int (nI sp), .int (nI ou)])), (x3, .inl (eI E, 255, .inl g))] [(6, .int (nI n)), (4, .long (lN (100000 ^ n))), (0, .ref hM), (1, .int (nI n)), (2, .long z)] [.int (bP (0 < 1))] 65
            refine r_if_eqF C (y := 0) (tgt := 70) dX6_runScript_65 (by decide) (fun z => ((by decide) : ¬ (¬ (0 < 1))) (z_eqB.mp z)) ?_
            refine r_iconst C dX6_runScript_68 ki_0 ?_
            exact RT.1 _ _ _ _ _ dX6_runScript_69 rfl rfl (⟨rfl, rfl⟩) rfl
          · replace h54_5 : lN 0 ≤ z ∧ z ≤ lN (100000 ^ n - 1) := Decidable.not_not.mp h54_5
            exact absurd h54_5 hx
      · refine r_iload C (i := 6) 0 dX6_runScript_12 rfl ?_
        refine r_iconst C dX6_runScript_14 ki_3 ?_
        refine r_icmp_ge C (c9 := 3 ≤ k) 32 dX6_runScript_15 (by decide) (c_leNN (by omega) (by omega)) (fun h15_6 => ?_) (fun h15_6 => ?_)
        · refine r_lo (lv' := [(6, .int (nI n)), (4, .long (lN (100000 ^ n))), (0, .ref hM), (1, .int (nI n)), (2, .long z)]) (by rw [hal, (by omega : k = n)]) ?_
          refine r_aload_n C (i := 0) 2 dX6_runScript_32 rfl rfl ?_
          refine r_iload_n C (i := 1) 3 dX6_runScript_33 rfl rfl ?_
          refine r_i2l (v := lN n) C dX6_runScript_34 (v_i2l (by omega)) ?_
          refine r_lconst (v := lN 1) C dX6_runScript_35 (by decide +kernel) ?_
          refine r_ldc2 (v := lN 3) C dX6_runScript_36 w_6_20 ?_
          refine r_readS (rest := [.ref hM]) C (c_X6_in (v := lN n) (lw := lN 1) (hg := lN 3)) lk_X6_in w_5_113 [] dX6_runScript_39 rfl rfl rfl ⟨by decide, by decide⟩ (Nat.le_of_ble_eq_true rfl) (st' := [.int (bP (lN 1 ≤ lN n ∧ lN n ≤ lN 3)), .ref hM]) rfl ?_
          refine r_st (st' := [.int (bP (1 ≤ n ∧ n ≤ 3)), .ref hM]) (by rw [bP_c (in_1N (by omega) (by omega))]) ?_
          refine r_if_eq C (y := 0) (c9 := ¬ (1 ≤ n ∧ n ≤ 3)) 61 dX6_runScript_42 (by decide) z_eqB (fun h42_7 => ?_) (fun h42_7 => ?_)
          · refine r_iconst C dX6_runScript_61 ki_1 ?_
            refine r_callV (rest := []) C (c_X6_refused (hM := hM) (rf := rf) (x1 := x1) (sz := sz) (x3 := x3) (x4 := x4) (x5 := x5) (ac := ac) (x7 := x7) (x8 := x8) (x9 := x9) (x10 := x10) (x11 := x11) (sp := sp) (ou := ou) (w := 1) (hw := (by omega))) lk_X6_refused w_5_116 [0] rfl dX6_runScript_62 rfl rfl rfl rfl ⟨by decide, by decide⟩ (Nat.le_of_ble_eq_true rfl) ?_
            rintro _ _ ⟨rfl, rfl⟩
            show ω [(hM, .inr (6, [.int (nI 1), .ref x1, .int (nI sz), .ref x3, .ref x4, .ref x5, .int (nI ac), .ref x7, .ref x8, .ref x9, .ref x10, .ref x11, .int (nI sp), .int (nI ou)])), (x3, .inl (eI E, 255, .inl g))] [(6, .int (nI n)), (4, .long (lN (100000 ^ n))), (0, .ref hM), (1, .int (nI n)), (2, .long z)] [.int (bP (0 < 1))] 65
            refine r_if_eqF C (y := 0) (tgt := 70) dX6_runScript_65 (by decide) (fun z => ((by decide) : ¬ (¬ (0 < 1))) (z_eqB.mp z)) ?_
            refine r_iconst C dX6_runScript_68 ki_0 ?_
            exact RT.1 _ _ _ _ _ dX6_runScript_69 rfl rfl (⟨rfl, rfl⟩) rfl
          · replace h42_7 : 1 ≤ n ∧ n ≤ 3 := Decidable.not_not.mp h42_7
            refine r_lload_n C (i := 2) 4 dX6_runScript_45 rfl rfl ?_
            refine r_lconst (v := lN 0) C dX6_runScript_46 (by decide +kernel) ?_
            refine r_lload C (i := 4) 1 dX6_runScript_47 rfl ?_
            refine r_lconst (v := lN 1) C dX6_runScript_49 (by decide +kernel) ?_
            refine r_lsub (v := lN (100000 ^ n - 1)) C dX6_runScript_50 (lN_sub (by omega)) ?_
            refine r_readS (rest := [.ref hM]) C (c_X6_in (v := z) (lw := lN 0) (hg := lN (100000 ^ n - 1))) lk_X6_in w_5_113 [] dX6_runScript_51 rfl rfl rfl ⟨by decide, by decide⟩ (Nat.le_of_ble_eq_true rfl) (st' := [.int (bP (lN 0 ≤ z ∧ z ≤ lN (100000 ^ n - 1))), .ref hM]) rfl ?_
            refine r_if_eq C (y := 0) (c9 := ¬ (lN 0 ≤ z ∧ z ≤ lN (100000 ^ n - 1))) 61 dX6_runScript_54 (by decide) z_eqB (fun h54_8 => ?_) (fun h54_8 => ?_)
            · refine r_iconst C dX6_runScript_61 ki_1 ?_
              refine r_callV (rest := []) C (c_X6_refused (hM := hM) (rf := rf) (x1 := x1) (sz := sz) (x3 := x3) (x4 := x4) (x5 := x5) (ac := ac) (x7 := x7) (x8 := x8) (x9 := x9) (x10 := x10) (x11 := x11) (sp := sp) (ou := ou) (w := 1) (hw := (by omega))) lk_X6_refused w_5_116 [0] rfl dX6_runScript_62 rfl rfl rfl rfl ⟨by decide, by decide⟩ (Nat.le_of_ble_eq_true rfl) ?_
              rintro _ _ ⟨rfl, rfl⟩
              show ω [(hM, .inr (6, [.int (nI 1), .ref x1, .int (nI sz), .ref x3, .ref x4, .ref x5, .int (nI ac), .ref x7, .ref x8, .ref x9, .ref x10, .ref x11, .int (nI sp), .int (nI ou)])), (x3, .inl (eI E, 255, .inl g))] [(6, .int (nI n)), (4, .long (lN (100000 ^ n))), (0, .ref hM), (1, .int (nI n)), (2, .long z)] [.int (bP (0 < 1))] 65
              refine r_if_eqF C (y := 0) (tgt := 70) dX6_runScript_65 (by decide) (fun z => ((by decide) : ¬ (¬ (0 < 1))) (z_eqB.mp z)) ?_
              refine r_iconst C dX6_runScript_68 ki_0 ?_
              exact RT.1 _ _ _ _ _ dX6_runScript_69 rfl rfl (⟨rfl, rfl⟩) rfl
            · replace h54_8 : lN 0 ≤ z ∧ z ≤ lN (100000 ^ n - 1) := Decidable.not_not.mp h54_8
              exact absurd h54_8 hx
        · refine r_lload C (i := 4) 1 dX6_runScript_18 rfl ?_
          refine r_ldc2 (v := lN 100000) C dX6_runScript_20 w_6_143 ?_
          refine r_lmul (v := lN (al * 100000)) C dX6_runScript_23 (lN_mul _ _) ?_
          refine r_lstore C (lv' := [(4, .long (lN (al * 100000))), (6, .int (nI k)), (0, .ref hM), (1, .int (nI n)), (2, .long z)]) dX6_runScript_24 (by decide) rfl ?_
          refine r_iinc C (lv' := [(6, .int (nI (k + 1))), (4, .long (lN (al * 100000))), (0, .ref hM), (1, .int (nI n)), (2, .long z)]) (v := nI (k + 1)) 1 dX6_runScript_26 rfl (v_inc _) (by decide) rfl ?_
          refine r_goto C 6 dX6_runScript_29 (by decide) ?_
          exact ih2 (k + 1) (al * 100000) (by omega) (by omega) (by rw [hal, Nat.pow_succ])
  exact loop6_1 _ 0 1 (Nat.lt_succ_self _) (by omega) rfl
