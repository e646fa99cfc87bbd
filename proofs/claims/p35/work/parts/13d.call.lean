set_option maxRecDepth 100000 in
theorem cl_about_0 {l : Launch} {E : Ev} (hst : l.stackTraces = false) {α : Nat → Nat} {σ : Sg} {hs : Nat → Sg} {cnt : Nat} {ks : Nat → Sg} {kd : Nat → Nat} {w : va_W} (hA : Ar E α σ hs cnt ks kd w)  {u2 u3 : Int32} : CtN l E yL_call cL_call 5 (some FieldType.int) none 9 195 0 [.ref (α 0), .int (nI 2), .int (nI 0), .int u2, .int u3] w (fun v9 w9 => v9 = some (.int (nI (sP σ))) ∧ Ar E α σ hs cnt ks kd w9) := by
  have hW := hA.W
  have hwP := hW.P
  have hwA := hW.A
  refine ctn_of (by decide +kernel) (Nat.le_of_ble_eq_true rfl) (fun Ω hB => ?_)
  have C := hB.1 0 (Nat.zero_le _)
  show Ω 0 w [(0, .ref (α 0)), (1, .int (nI 2)), (2, .int (nI 0)), (3, .int u2), (4, .int u3)] [] 0
  refine r_iload_n C (i := 1) 1 dL_call_0 rfl rfl ?_
  refine r_tabIn (off := 122) C 123 dL_call_1 (by decide) (by decide) (by decide) (by decide) ?_
  refine r_aload_n C (i := 0) 0 dL_call_123 rfl rfl ?_
  refine r_iload_n C (i := 2) 2 dL_call_124 rfl rfl ?_
  refine Ca.one hB.2.2.2 (j := 0) (k' := 0) (rest := []) (Nat.le_refl _) (t_about_0 hst hA ) lk_L_tryAbout w_3_29 dL_call_125 rfl ⟨by decide, by decide⟩ (Nat.le_of_ble_eq_true rfl) (fun v9 w9 hp => ?_)
  obtain ⟨rfl, hA9⟩ := hp
  exact (hB.2.2.1 0 (Nat.le_refl _)).1 _ _ _ _ _ dL_call_128 rfl rfl ⟨rfl, hA9⟩ (hA9.fst.trans hA.fst.symm)
set_option maxRecDepth 100000 in
theorem cl_about_1 {l : Launch} {E : Ev} (hst : l.stackTraces = false) {α : Nat → Nat} {σ : Sg} {hs : Nat → Sg} {cnt : Nat} {ks : Nat → Sg} {kd : Nat → Nat} {w : va_W} (hA : Ar E α σ hs cnt ks kd w)  {u2 u3 : Int32} : CtN l E yL_call cL_call 5 (some FieldType.int) none 9 195 0 [.ref (α 0), .int (nI 2), .int (nI 1), .int u2, .int u3] w (fun v9 w9 => v9 = some (.int (nI (sA σ))) ∧ Ar E α σ hs cnt ks kd w9) := by
  have hW := hA.W
  have hwP := hW.P
  have hwA := hW.A
  refine ctn_of (by decide +kernel) (Nat.le_of_ble_eq_true rfl) (fun Ω hB => ?_)
  have C := hB.1 0 (Nat.zero_le _)
  show Ω 0 w [(0, .ref (α 0)), (1, .int (nI 2)), (2, .int (nI 1)), (3, .int u2), (4, .int u3)] [] 0
  refine r_iload_n C (i := 1) 1 dL_call_0 rfl rfl ?_
  refine r_tabIn (off := 122) C 123 dL_call_1 (by decide) (by decide) (by decide) (by decide) ?_
  refine r_aload_n C (i := 0) 0 dL_call_123 rfl rfl ?_
  refine r_iload_n C (i := 2) 2 dL_call_124 rfl rfl ?_
  refine Ca.one hB.2.2.2 (j := 0) (k' := 0) (rest := []) (Nat.le_refl _) (t_about_1 hst hA ) lk_L_tryAbout w_3_29 dL_call_125 rfl ⟨by decide, by decide⟩ (Nat.le_of_ble_eq_true rfl) (fun v9 w9 hp => ?_)
  obtain ⟨rfl, hA9⟩ := hp
  exact (hB.2.2.1 0 (Nat.le_refl _)).1 _ _ _ _ _ dL_call_128 rfl rfl ⟨rfl, hA9⟩ (hA9.fst.trans hA.fst.symm)
set_option maxRecDepth 100000 in
theorem cl_about_2 {l : Launch} {E : Ev} (hst : l.stackTraces = false) {α : Nat → Nat} {σ : Sg} {hs : Nat → Sg} {cnt : Nat} {ks : Nat → Sg} {kd : Nat → Nat} {w : va_W} (hA : Ar E α σ hs cnt ks kd w)  {u2 u3 : Int32} : CtN l E yL_call cL_call 5 (some FieldType.int) none 9 195 0 [.ref (α 0), .int (nI 2), .int (nI 2), .int u2, .int u3] w (fun v9 w9 => v9 = some (.int (nI (sS σ))) ∧ Ar E α σ hs cnt ks kd w9) := by
  have hW := hA.W
  have hwP := hW.P
  have hwA := hW.A
  refine ctn_of (by decide +kernel) (Nat.le_of_ble_eq_true rfl) (fun Ω hB => ?_)
  have C := hB.1 0 (Nat.zero_le _)
  show Ω 0 w [(0, .ref (α 0)), (1, .int (nI 2)), (2, .int (nI 2)), (3, .int u2), (4, .int u3)] [] 0
  refine r_iload_n C (i := 1) 1 dL_call_0 rfl rfl ?_
  refine r_tabIn (off := 122) C 123 dL_call_1 (by decide) (by decide) (by decide) (by decide) ?_
  refine r_aload_n C (i := 0) 0 dL_call_123 rfl rfl ?_
  refine r_iload_n C (i := 2) 2 dL_call_124 rfl rfl ?_
  refine Ca.one hB.2.2.2 (j := 0) (k' := 0) (rest := []) (Nat.le_refl _) (t_about_2 hst hA ) lk_L_tryAbout w_3_29 dL_call_125 rfl ⟨by decide, by decide⟩ (Nat.le_of_ble_eq_true rfl) (fun v9 w9 hp => ?_)
  obtain ⟨rfl, hA9⟩ := hp
  exact (hB.2.2.1 0 (Nat.le_refl _)).1 _ _ _ _ _ dL_call_128 rfl rfl ⟨rfl, hA9⟩ (hA9.fst.trans hA.fst.symm)
set_option maxRecDepth 100000 in
theorem cl_about_3 {l : Launch} {E : Ev} (hst : l.stackTraces = false) {α : Nat → Nat} {σ : Sg} {hs : Nat → Sg} {cnt : Nat} {ks : Nat → Sg} {kd : Nat → Nat} {w : va_W} (hA : Ar E α σ hs cnt ks kd w)  {u2 u3 : Int32} : CtN l E yL_call cL_call 5 (some FieldType.int) none 9 195 0 [.ref (α 0), .int (nI 2), .int (nI 3), .int u2, .int u3] w (fun v9 w9 => v9 = some (.int (nI (dkS σ 20))) ∧ Ar E α σ hs cnt ks kd w9) := by
  have hW := hA.W
  have hwP := hW.P
  have hwA := hW.A
  refine ctn_of (by decide +kernel) (Nat.le_of_ble_eq_true rfl) (fun Ω hB => ?_)
  have C := hB.1 0 (Nat.zero_le _)
  show Ω 0 w [(0, .ref (α 0)), (1, .int (nI 2)), (2, .int (nI 3)), (3, .int u2), (4, .int u3)] [] 0
  refine r_iload_n C (i := 1) 1 dL_call_0 rfl rfl ?_
  refine r_tabIn (off := 122) C 123 dL_call_1 (by decide) (by decide) (by decide) (by decide) ?_
  refine r_aload_n C (i := 0) 0 dL_call_123 rfl rfl ?_
  refine r_iload_n C (i := 2) 2 dL_call_124 rfl rfl ?_
  refine Ca.one hB.2.2.2 (j := 0) (k' := 0) (rest := []) (Nat.le_refl _) (t_about_3 hst hA ) lk_L_tryAbout w_3_29 dL_call_125 rfl ⟨by decide, by decide⟩ (Nat.le_of_ble_eq_true rfl) (fun v9 w9 hp => ?_)
  obtain ⟨rfl, hA9⟩ := hp
  exact (hB.2.2.1 0 (Nat.le_refl _)).1 _ _ _ _ _ dL_call_128 rfl rfl ⟨rfl, hA9⟩ (hA9.fst.trans hA.fst.symm)
set_option maxRecDepth 100000 in
theorem cl_about_4 {l : Launch} {E : Ev} (hst : l.stackTraces = false) {α : Nat → Nat} {σ : Sg} {hs : Nat → Sg} {cnt : Nat} {ks : Nat → Sg} {kd : Nat → Nat} {w : va_W} (hA : Ar E α σ hs cnt ks kd w)  {u2 u3 : Int32} : CtN l E yL_call cL_call 5 (some FieldType.int) none 9 195 0 [.ref (α 0), .int (nI 2), .int (nI 4), .int u2, .int u3] w (fun v9 w9 => v9 = some (.int (nI (tkS σ 20))) ∧ Ar E α σ hs cnt ks kd w9) := by
  have hW := hA.W
  have hwP := hW.P
  have hwA := hW.A
  refine ctn_of (by decide +kernel) (Nat.le_of_ble_eq_true rfl) (fun Ω hB => ?_)
  have C := hB.1 0 (Nat.zero_le _)
  show Ω 0 w [(0, .ref (α 0)), (1, .int (nI 2)), (2, .int (nI 4)), (3, .int u2), (4, .int u3)] [] 0
  refine r_iload_n C (i := 1) 1 dL_call_0 rfl rfl ?_
  refine r_tabIn (off := 122) C 123 dL_call_1 (by decide) (by decide) (by decide) (by decide) ?_
  refine r_aload_n C (i := 0) 0 dL_call_123 rfl rfl ?_
  refine r_iload_n C (i := 2) 2 dL_call_124 rfl rfl ?_
  refine Ca.one hB.2.2.2 (j := 0) (k' := 0) (rest := []) (Nat.le_refl _) (t_about_4 hst hA ) lk_L_tryAbout w_3_29 dL_call_125 rfl ⟨by decide, by decide⟩ (Nat.le_of_ble_eq_true rfl) (fun v9 w9 hp => ?_)
  obtain ⟨rfl, hA9⟩ := hp
  exact (hB.2.2.1 0 (Nat.le_refl _)).1 _ _ _ _ _ dL_call_128 rfl rfl ⟨rfl, hA9⟩ (hA9.fst.trans hA.fst.symm)
set_option maxRecDepth 100000 in
theorem cl_about_5 {l : Launch} {E : Ev} (hst : l.stackTraces = false) {α : Nat → Nat} {σ : Sg} {hs : Nat → Sg} {cnt : Nat} {ks : Nat → Sg} {kd : Nat → Nat} {w : va_W} (hA : Ar E α σ hs cnt ks kd w)  {u2 u3 : Int32} : CtN l E yL_call cL_call 5 (some FieldType.int) none 9 195 0 [.ref (α 0), .int (nI 2), .int (nI 5), .int u2, .int u3] w (fun v9 w9 => v9 = some (.int (nI (unlN σ 20))) ∧ Ar E α σ hs cnt ks kd w9) := by
  have hW := hA.W
  have hwP := hW.P
  have hwA := hW.A
  refine ctn_of (by decide +kernel) (Nat.le_of_ble_eq_true rfl) (fun Ω hB => ?_)
  have C := hB.1 0 (Nat.zero_le _)
  show Ω 0 w [(0, .ref (α 0)), (1, .int (nI 2)), (2, .int (nI 5)), (3, .int u2), (4, .int u3)] [] 0
  refine r_iload_n C (i := 1) 1 dL_call_0 rfl rfl ?_
  refine r_tabIn (off := 122) C 123 dL_call_1 (by decide) (by decide) (by decide) (by decide) ?_
  refine r_aload_n C (i := 0) 0 dL_call_123 rfl rfl ?_
  refine r_iload_n C (i := 2) 2 dL_call_124 rfl rfl ?_
  refine Ca.one hB.2.2.2 (j := 0) (k' := 0) (rest := []) (Nat.le_refl _) (t_about_5 hst hA ) lk_L_tryAbout w_3_29 dL_call_125 rfl ⟨by decide, by decide⟩ (Nat.le_of_ble_eq_true rfl) (fun v9 w9 hp => ?_)
  obtain ⟨rfl, hA9⟩ := hp
  exact (hB.2.2.1 0 (Nat.le_refl _)).1 _ _ _ _ _ dL_call_128 rfl rfl ⟨rfl, hA9⟩ (hA9.fst.trans hA.fst.symm)
set_option maxRecDepth 100000 in
theorem cl_about_6 {l : Launch} {E : Ev} (hst : l.stackTraces = false) {α : Nat → Nat} {σ : Sg} {hs : Nat → Sg} {cnt : Nat} {ks : Nat → Sg} {kd : Nat → Nat} {w : va_W} (hA : Ar E α σ hs cnt ks kd w)  {u2 u3 : Int32} : CtN l E yL_call cL_call 5 (some FieldType.int) none 9 195 0 [.ref (α 0), .int (nI 2), .int (nI 6), .int u2, .int u3] w (fun v9 w9 => v9 = some (.int (nI (usN σ (sS σ)))) ∧ Ar E α σ hs cnt ks kd w9) := by
  have hW := hA.W
  have hwP := hW.P
  have hwA := hW.A
  refine ctn_of (by decide +kernel) (Nat.le_of_ble_eq_true rfl) (fun Ω hB => ?_)
  have C := hB.1 0 (Nat.zero_le _)
  show Ω 0 w [(0, .ref (α 0)), (1, .int (nI 2)), (2, .int (nI 6)), (3, .int u2), (4, .int u3)] [] 0
  refine r_iload_n C (i := 1) 1 dL_call_0 rfl rfl ?_
  refine r_tabIn (off := 122) C 123 dL_call_1 (by decide) (by decide) (by decide) (by decide) ?_
  refine r_aload_n C (i := 0) 0 dL_call_123 rfl rfl ?_
  refine r_iload_n C (i := 2) 2 dL_call_124 rfl rfl ?_
  refine Ca.one hB.2.2.2 (j := 0) (k' := 0) (rest := []) (Nat.le_refl _) (t_about_6 hst hA ) lk_L_tryAbout w_3_29 dL_call_125 rfl ⟨by decide, by decide⟩ (Nat.le_of_ble_eq_true rfl) (fun v9 w9 hp => ?_)
  obtain ⟨rfl, hA9⟩ := hp
  exact (hB.2.2.1 0 (Nat.le_refl _)).1 _ _ _ _ _ dL_call_128 rfl rfl ⟨rfl, hA9⟩ (hA9.fst.trans hA.fst.symm)
set_option maxRecDepth 100000 in
theorem cl_about_no {l : Launch} {E : Ev} (hst : l.stackTraces = false) {α : Nat → Nat} {σ : Sg} {hs : Nat → Sg} {cnt : Nat} {ks : Nat → Sg} {kd : Nat → Nat} {w : va_W} (hA : Ar E α σ hs cnt ks kd w) {x : Int32} (hx : ¬ vI x 7) {u2 u3 : Int32} : CtN l E yL_call cL_call 5 (some FieldType.int) none 9 195 1 [.ref (α 0), .int (nI 2), .int x, .int u2, .int u3] w (fun v9 w9 => v9 = some (.int (-9999002)) ∧ Ar E α σ hs cnt ks kd w9) := by
  have hW := hA.W
  have hwP := hW.P
  have hwA := hW.A
  refine ctn_of (by decide +kernel) (Nat.le_of_ble_eq_true rfl) (fun Ω hB => ?_)
  have C := hB.1 0 (Nat.zero_le _)
  show Ω 0 w [(0, .ref (α 0)), (1, .int (nI 2)), (2, .int x), (3, .int u2), (4, .int u3)] [] 0
  refine r_iload_n C (i := 1) 1 dL_call_0 rfl rfl ?_
  refine r_tabIn (off := 122) C 123 dL_call_1 (by decide) (by decide) (by decide) (by decide) ?_
  refine r_aload_n C (i := 0) 0 dL_call_123 rfl rfl ?_
  refine r_iload_n C (i := 2) 2 dL_call_124 rfl rfl ?_
  refine Ca.one hB.2.2.2 (j := 0) (k' := 1) (rest := []) (Nat.le_refl _) (t_about_no hst hA (hx := hx)) lk_L_tryAbout w_3_29 dL_call_125 rfl ⟨by decide, by decide⟩ (Nat.le_of_ble_eq_true rfl) (fun v9 w9 hp => ?_)
  obtain ⟨rfl, hA9⟩ := hp
  exact (hB.2.2.1 1 (Nat.le_refl _)).1 _ _ _ _ _ dL_call_128 rfl rfl ⟨rfl, hA9⟩ (hA9.fst.trans hA.fst.symm)
set_option maxRecDepth 100000 in
theorem cl_played {l : Launch} {E : Ev} (hst : l.stackTraces = false) {α : Nat → Nat} {σ : Sg} {hs : Nat → Sg} {cnt : Nat} {ks : Nat → Sg} {kd : Nat → Nat} {w : va_W} (hA : Ar E α σ hs cnt ks kd w) {n p : Nat}(hn : n < 20)(hp : p < sP σ) {u3 : Int32} : CtN l E yL_call cL_call 5 (some FieldType.int) none 9 195 0 [.ref (α 0), .int (nI 3), .int (nI n), .int (nI p), .int u3] w (fun v9 w9 => v9 = some (.int (mI (pT σ n p))) ∧ Ar E α σ hs cnt ks kd w9) := by
  have hW := hA.W
  have hwP := hW.P
  have hwA := hW.A
  refine ctn_of (by decide +kernel) (Nat.le_of_ble_eq_true rfl) (fun Ω hB => ?_)
  have C := hB.1 0 (Nat.zero_le _)
  show Ω 0 w [(0, .ref (α 0)), (1, .int (nI 3)), (2, .int (nI n)), (3, .int (nI p)), (4, .int u3)] [] 0
  refine r_iload_n C (i := 1) 1 dL_call_0 rfl rfl ?_
  refine r_tabIn (off := 128) C 129 dL_call_1 (by decide) (by decide) (by decide) (by decide) ?_
  refine r_aload_n C (i := 0) 0 dL_call_129 rfl rfl ?_
  refine r_iload_n C (i := 2) 2 dL_call_130 rfl rfl ?_
  refine r_iload_n C (i := 3) 3 dL_call_131 rfl rfl ?_
  refine Ca.one hB.2.2.2 (j := 0) (k' := 0) (rest := []) (Nat.le_refl _) (t_played hst hA (hn := hn) (hp := hp)) lk_L_tryPlayed w_3_176 dL_call_132 rfl ⟨by decide, by decide⟩ (Nat.le_of_ble_eq_true rfl) (fun v9 w9 hp => ?_)
  obtain ⟨rfl, hA9⟩ := hp
  exact (hB.2.2.1 0 (Nat.le_refl _)).1 _ _ _ _ _ dL_call_135 rfl rfl ⟨rfl, hA9⟩ (hA9.fst.trans hA.fst.symm)
set_option maxRecDepth 100000 in
theorem cl_played_na {l : Launch} {E : Ev} (hst : l.stackTraces = false) {α : Nat → Nat} {σ : Sg} {hs : Nat → Sg} {cnt : Nat} {ks : Nat → Sg} {kd : Nat → Nat} {w : va_W} (hA : Ar E α σ hs cnt ks kd w) {x y : Int32}(hx : ¬ vI x 20) {u3 : Int32} : CtN l E yL_call cL_call 5 (some FieldType.int) none 9 195 1 [.ref (α 0), .int (nI 3), .int x, .int y, .int u3] w (fun v9 w9 => v9 = some (.int (-9999001)) ∧ Ar E α σ hs cnt ks kd w9) := by
  have hW := hA.W
  have hwP := hW.P
  have hwA := hW.A
  refine ctn_of (by decide +kernel) (Nat.le_of_ble_eq_true rfl) (fun Ω hB => ?_)
  have C := hB.1 0 (Nat.zero_le _)
  show Ω 0 w [(0, .ref (α 0)), (1, .int (nI 3)), (2, .int x), (3, .int y), (4, .int u3)] [] 0
  refine r_iload_n C (i := 1) 1 dL_call_0 rfl rfl ?_
  refine r_tabIn (off := 128) C 129 dL_call_1 (by decide) (by decide) (by decide) (by decide) ?_
  refine r_aload_n C (i := 0) 0 dL_call_129 rfl rfl ?_
  refine r_iload_n C (i := 2) 2 dL_call_130 rfl rfl ?_
  refine r_iload_n C (i := 3) 3 dL_call_131 rfl rfl ?_
  refine Ca.one hB.2.2.2 (j := 0) (k' := 1) (rest := []) (Nat.le_refl _) (t_played_na hst hA (hx := hx)) lk_L_tryPlayed w_3_176 dL_call_132 rfl ⟨by decide, by decide⟩ (Nat.le_of_ble_eq_true rfl) (fun v9 w9 hp => ?_)
  obtain ⟨rfl, hA9⟩ := hp
  exact (hB.2.2.1 1 (Nat.le_refl _)).1 _ _ _ _ _ dL_call_135 rfl rfl ⟨rfl, hA9⟩ (hA9.fst.trans hA.fst.symm)
set_option maxRecDepth 100000 in
theorem cl_played_nb {l : Launch} {E : Ev} (hst : l.stackTraces = false) {α : Nat → Nat} {σ : Sg} {hs : Nat → Sg} {cnt : Nat} {ks : Nat → Sg} {kd : Nat → Nat} {w : va_W} (hA : Ar E α σ hs cnt ks kd w) {n : Nat}{x : Int32}(hn : n < 20)(hx : ¬ vI x (sP σ)) {u3 : Int32} : CtN l E yL_call cL_call 5 (some FieldType.int) none 9 195 1 [.ref (α 0), .int (nI 3), .int (nI n), .int x, .int u3] w (fun v9 w9 => v9 = some (.int (-9999001)) ∧ Ar E α σ hs cnt ks kd w9) := by
  have hW := hA.W
  have hwP := hW.P
  have hwA := hW.A
  refine ctn_of (by decide +kernel) (Nat.le_of_ble_eq_true rfl) (fun Ω hB => ?_)
  have C := hB.1 0 (Nat.zero_le _)
  show Ω 0 w [(0, .ref (α 0)), (1, .int (nI 3)), (2, .int (nI n)), (3, .int x), (4, .int u3)] [] 0
  refine r_iload_n C (i := 1) 1 dL_call_0 rfl rfl ?_
  refine r_tabIn (off := 128) C 129 dL_call_1 (by decide) (by decide) (by decide) (by decide) ?_
  refine r_aload_n C (i := 0) 0 dL_call_129 rfl rfl ?_
  refine r_iload_n C (i := 2) 2 dL_call_130 rfl rfl ?_
  refine r_iload_n C (i := 3) 3 dL_call_131 rfl rfl ?_
  refine Ca.one hB.2.2.2 (j := 0) (k' := 1) (rest := []) (Nat.le_refl _) (t_played_nb hst hA (hn := hn) (hx := hx)) lk_L_tryPlayed w_3_176 dL_call_132 rfl ⟨by decide, by decide⟩ (Nat.le_of_ble_eq_true rfl) (fun v9 w9 hp => ?_)
  obtain ⟨rfl, hA9⟩ := hp
  exact (hB.2.2.1 1 (Nat.le_refl _)).1 _ _ _ _ _ dL_call_135 rfl rfl ⟨rfl, hA9⟩ (hA9.fst.trans hA.fst.symm)
set_option maxRecDepth 100000 in
theorem cl_bill_0 {l : Launch} {E : Ev} (hst : l.stackTraces = false) {α : Nat → Nat} {σ : Sg} {hs : Nat → Sg} {cnt : Nat} {ks : Nat → Sg} {kd : Nat → Nat} {w : va_W} (hA : Ar E α σ hs cnt ks kd w) {n p : Nat}(hn : n < 20)(hp : p < sP σ) : CtN l E yL_call cL_call 5 (some FieldType.int) none 9 195 0 [.ref (α 0), .int (nI 4), .int (nI n), .int (nI p), .int (nI 0)] w (fun v9 w9 => v9 = some (.int (mI (sR σ p n))) ∧ Ar E α σ hs cnt ks kd w9) := by
  have hW := hA.W
  have hwP := hW.P
  have hwA := hW.A
  refine ctn_of (by decide +kernel) (Nat.le_of_ble_eq_true rfl) (fun Ω hB => ?_)
  have C := hB.1 0 (Nat.zero_le _)
  show Ω 0 w [(0, .ref (α 0)), (1, .int (nI 4)), (2, .int (nI n)), (3, .int (nI p)), (4, .int (nI 0))] [] 0
  refine r_iload_n C (i := 1) 1 dL_call_0 rfl rfl ?_
  refine r_tabIn (off := 135) C 136 dL_call_1 (by decide) (by decide) (by decide) (by decide) ?_
  refine r_aload_n C (i := 0) 0 dL_call_136 rfl rfl ?_
  refine r_iload_n C (i := 2) 2 dL_call_137 rfl rfl ?_
  refine r_iload_n C (i := 3) 3 dL_call_138 rfl rfl ?_
  refine r_iload C (i := 4) 4 dL_call_139 rfl ?_
  refine Ca.one hB.2.2.2 (j := 0) (k' := 0) (rest := []) (Nat.le_refl _) (t_bill_0 hst hA (hn := hn) (hp := hp)) lk_L_tryBill w_3_190 dL_call_141 rfl ⟨by decide, by decide⟩ (Nat.le_of_ble_eq_true rfl) (fun v9 w9 hp => ?_)
  obtain ⟨rfl, hA9⟩ := hp
  exact (hB.2.2.1 0 (Nat.le_refl _)).1 _ _ _ _ _ dL_call_144 rfl rfl ⟨rfl, hA9⟩ (hA9.fst.trans hA.fst.symm)
set_option maxRecDepth 100000 in
theorem cl_bill_1 {l : Launch} {E : Ev} (hst : l.stackTraces = false) {α : Nat → Nat} {σ : Sg} {hs : Nat → Sg} {cnt : Nat} {ks : Nat → Sg} {kd : Nat → Nat} {w : va_W} (hA : Ar E α σ hs cnt ks kd w) {n p : Nat}(hn : n < 20)(hp : p < sP σ) : CtN l E yL_call cL_call 5 (some FieldType.int) none 9 195 0 [.ref (α 0), .int (nI 4), .int (nI n), .int (nI p), .int (nI 1)] w (fun v9 w9 => v9 = some (.int (mI (T σ n p))) ∧ Ar E α σ hs cnt ks kd w9) := by
  have hW := hA.W
  have hwP := hW.P
  have hwA := hW.A
  refine ctn_of (by decide +kernel) (Nat.le_of_ble_eq_true rfl) (fun Ω hB => ?_)
  have C := hB.1 0 (Nat.zero_le _)
  show Ω 0 w [(0, .ref (α 0)), (1, .int (nI 4)), (2, .int (nI n)), (3, .int (nI p)), (4, .int (nI 1))] [] 0
  refine r_iload_n C (i := 1) 1 dL_call_0 rfl rfl ?_
  refine r_tabIn (off := 135) C 136 dL_call_1 (by decide) (by decide) (by decide) (by decide) ?_
  refine r_aload_n C (i := 0) 0 dL_call_136 rfl rfl ?_
  refine r_iload_n C (i := 2) 2 dL_call_137 rfl rfl ?_
  refine r_iload_n C (i := 3) 3 dL_call_138 rfl rfl ?_
  refine r_iload C (i := 4) 4 dL_call_139 rfl ?_
  refine Ca.one hB.2.2.2 (j := 0) (k' := 0) (rest := []) (Nat.le_refl _) (t_bill_1 hst hA (hn := hn) (hp := hp)) lk_L_tryBill w_3_190 dL_call_141 rfl ⟨by decide, by decide⟩ (Nat.le_of_ble_eq_true rfl) (fun v9 w9 hp => ?_)
  obtain ⟨rfl, hA9⟩ := hp
  exact (hB.2.2.1 0 (Nat.le_refl _)).1 _ _ _ _ _ dL_call_144 rfl rfl ⟨rfl, hA9⟩ (hA9.fst.trans hA.fst.symm)
set_option maxRecDepth 100000 in
theorem cl_bill_2 {l : Launch} {E : Ev} (hst : l.stackTraces = false) {α : Nat → Nat} {σ : Sg} {hs : Nat → Sg} {cnt : Nat} {ks : Nat → Sg} {kd : Nat → Nat} {w : va_W} (hA : Ar E α σ hs cnt ks kd w) {n p : Nat}(hn : n < 20)(hp : p < sP σ) : CtN l E yL_call cL_call 5 (some FieldType.int) none 9 195 0 [.ref (α 0), .int (nI 4), .int (nI n), .int (nI p), .int (nI 2)] w (fun v9 w9 => v9 = some (.int (nI (Wy σ n p))) ∧ Ar E α σ hs cnt ks kd w9) := by
  have hW := hA.W
  have hwP := hW.P
  have hwA := hW.A
  refine ctn_of (by decide +kernel) (Nat.le_of_ble_eq_true rfl) (fun Ω hB => ?_)
  have C := hB.1 0 (Nat.zero_le _)
  show Ω 0 w [(0, .ref (α 0)), (1, .int (nI 4)), (2, .int (nI n)), (3, .int (nI p)), (4, .int (nI 2))] [] 0
  refine r_iload_n C (i := 1) 1 dL_call_0 rfl rfl ?_
  refine r_tabIn (off := 135) C 136 dL_call_1 (by decide) (by decide) (by decide) (by decide) ?_
  refine r_aload_n C (i := 0) 0 dL_call_136 rfl rfl ?_
  refine r_iload_n C (i := 2) 2 dL_call_137 rfl rfl ?_
  refine r_iload_n C (i := 3) 3 dL_call_138 rfl rfl ?_
  refine r_iload C (i := 4) 4 dL_call_139 rfl ?_
  refine Ca.one hB.2.2.2 (j := 0) (k' := 0) (rest := []) (Nat.le_refl _) (t_bill_2 hst hA (hn := hn) (hp := hp)) lk_L_tryBill w_3_190 dL_call_141 rfl ⟨by decide, by decide⟩ (Nat.le_of_ble_eq_true rfl) (fun v9 w9 hp => ?_)
  obtain ⟨rfl, hA9⟩ := hp
  exact (hB.2.2.1 0 (Nat.le_refl _)).1 _ _ _ _ _ dL_call_144 rfl rfl ⟨rfl, hA9⟩ (hA9.fst.trans hA.fst.symm)
set_option maxRecDepth 100000 in
theorem cl_bill_3 {l : Launch} {E : Ev} (hst : l.stackTraces = false) {α : Nat → Nat} {σ : Sg} {hs : Nat → Sg} {cnt : Nat} {ks : Nat → Sg} {kd : Nat → Nat} {w : va_W} (hA : Ar E α σ hs cnt ks kd w) {n p : Nat}(hn : n < 20)(hp : p < sP σ) : CtN l E yL_call cL_call 5 (some FieldType.int) none 9 195 0 [.ref (α 0), .int (nI 4), .int (nI n), .int (nI p), .int (nI 3)] w (fun v9 w9 => v9 = some (.int (nI (slC σ n p (sS σ)))) ∧ Ar E α σ hs cnt ks kd w9) := by
  have hW := hA.W
  have hwP := hW.P
  have hwA := hW.A
  refine ctn_of (by decide +kernel) (Nat.le_of_ble_eq_true rfl) (fun Ω hB => ?_)
  have C := hB.1 0 (Nat.zero_le _)
  show Ω 0 w [(0, .ref (α 0)), (1, .int (nI 4)), (2, .int (nI n)), (3, .int (nI p)), (4, .int (nI 3))] [] 0
  refine r_iload_n C (i := 1) 1 dL_call_0 rfl rfl ?_
  refine r_tabIn (off := 135) C 136 dL_call_1 (by decide) (by decide) (by decide) (by decide) ?_
  refine r_aload_n C (i := 0) 0 dL_call_136 rfl rfl ?_
  refine r_iload_n C (i := 2) 2 dL_call_137 rfl rfl ?_
  refine r_iload_n C (i := 3) 3 dL_call_138 rfl rfl ?_
  refine r_iload C (i := 4) 4 dL_call_139 rfl ?_
  refine Ca.one hB.2.2.2 (j := 0) (k' := 0) (rest := []) (Nat.le_refl _) (t_bill_3 hst hA (hn := hn) (hp := hp)) lk_L_tryBill w_3_190 dL_call_141 rfl ⟨by decide, by decide⟩ (Nat.le_of_ble_eq_true rfl) (fun v9 w9 hp => ?_)
  obtain ⟨rfl, hA9⟩ := hp
  exact (hB.2.2.1 0 (Nat.le_refl _)).1 _ _ _ _ _ dL_call_144 rfl rfl ⟨rfl, hA9⟩ (hA9.fst.trans hA.fst.symm)
set_option maxRecDepth 100000 in
theorem cl_bill_na {l : Launch} {E : Ev} (hst : l.stackTraces = false) {α : Nat → Nat} {σ : Sg} {hs : Nat → Sg} {cnt : Nat} {ks : Nat → Sg} {kd : Nat → Nat} {w : va_W} (hA : Ar E α σ hs cnt ks kd w) {x y z : Int32}(hx : ¬ vI x 20) : CtN l E yL_call cL_call 5 (some FieldType.int) none 9 195 1 [.ref (α 0), .int (nI 4), .int x, .int y, .int z] w (fun v9 w9 => v9 = some (.int (-9999001)) ∧ Ar E α σ hs cnt ks kd w9) := by
  have hW := hA.W
  have hwP := hW.P
  have hwA := hW.A
  refine ctn_of (by decide +kernel) (Nat.le_of_ble_eq_true rfl) (fun Ω hB => ?_)
  have C := hB.1 0 (Nat.zero_le _)
  show Ω 0 w [(0, .ref (α 0)), (1, .int (nI 4)), (2, .int x), (3, .int y), (4, .int z)] [] 0
  refine r_iload_n C (i := 1) 1 dL_call_0 rfl rfl ?_
  refine r_tabIn (off := 135) C 136 dL_call_1 (by decide) (by decide) (by decide) (by decide) ?_
  refine r_aload_n C (i := 0) 0 dL_call_136 rfl rfl ?_
  refine r_iload_n C (i := 2) 2 dL_call_137 rfl rfl ?_
  refine r_iload_n C (i := 3) 3 dL_call_138 rfl rfl ?_
  refine r_iload C (i := 4) 4 dL_call_139 rfl ?_
  refine Ca.one hB.2.2.2 (j := 0) (k' := 1) (rest := []) (Nat.le_refl _) (t_bill_na hst hA (hx := hx)) lk_L_tryBill w_3_190 dL_call_141 rfl ⟨by decide, by decide⟩ (Nat.le_of_ble_eq_true rfl) (fun v9 w9 hp => ?_)
  obtain ⟨rfl, hA9⟩ := hp
  exact (hB.2.2.1 1 (Nat.le_refl _)).1 _ _ _ _ _ dL_call_144 rfl rfl ⟨rfl, hA9⟩ (hA9.fst.trans hA.fst.symm)
set_option maxRecDepth 100000 in
theorem cl_bill_nc {l : Launch} {E : Ev} (hst : l.stackTraces = false) {α : Nat → Nat} {σ : Sg} {hs : Nat → Sg} {cnt : Nat} {ks : Nat → Sg} {kd : Nat → Nat} {w : va_W} (hA : Ar E α σ hs cnt ks kd w) {n p : Nat}{x : Int32}(hn : n < 20)(hp : p < sP σ)(hx : ¬ vI x 4) : CtN l E yL_call cL_call 5 (some FieldType.int) none 9 195 1 [.ref (α 0), .int (nI 4), .int (nI n), .int (nI p), .int x] w (fun v9 w9 => v9 = some (.int (-9999002)) ∧ Ar E α σ hs cnt ks kd w9) := by
  have hW := hA.W
  have hwP := hW.P
  have hwA := hW.A
  refine ctn_of (by decide +kernel) (Nat.le_of_ble_eq_true rfl) (fun Ω hB => ?_)
  have C := hB.1 0 (Nat.zero_le _)
  show Ω 0 w [(0, .ref (α 0)), (1, .int (nI 4)), (2, .int (nI n)), (3, .int (nI p)), (4, .int x)] [] 0
  refine r_iload_n C (i := 1) 1 dL_call_0 rfl rfl ?_
  refine r_tabIn (off := 135) C 136 dL_call_1 (by decide) (by decide) (by decide) (by decide) ?_
  refine r_aload_n C (i := 0) 0 dL_call_136 rfl rfl ?_
  refine r_iload_n C (i := 2) 2 dL_call_137 rfl rfl ?_
  refine r_iload_n C (i := 3) 3 dL_call_138 rfl rfl ?_
  refine r_iload C (i := 4) 4 dL_call_139 rfl ?_
  refine Ca.one hB.2.2.2 (j := 0) (k' := 1) (rest := []) (Nat.le_refl _) (t_bill_nc hst hA (hn := hn) (hp := hp) (hx := hx)) lk_L_tryBill w_3_190 dL_call_141 rfl ⟨by decide, by decide⟩ (Nat.le_of_ble_eq_true rfl) (fun v9 w9 hp => ?_)
  obtain ⟨rfl, hA9⟩ := hp
  exact (hB.2.2.1 1 (Nat.le_refl _)).1 _ _ _ _ _ dL_call_144 rfl rfl ⟨rfl, hA9⟩ (hA9.fst.trans hA.fst.symm)
set_option maxRecDepth 100000 in
theorem cl_night_0 {l : Launch} {E : Ev} (hst : l.stackTraces = false) {α : Nat → Nat} {σ : Sg} {hs : Nat → Sg} {cnt : Nat} {ks : Nat → Sg} {kd : Nat → Nat} {w : va_W} (hA : Ar E α σ hs cnt ks kd w) {n : Nat}(hn : n < 20) {u3 : Int32} : CtN l E yL_call cL_call 5 (some FieldType.int) none 9 195 0 [.ref (α 0), .int (nI 5), .int (nI n), .int (nI 0), .int u3] w (fun v9 w9 => v9 = some (.int (nI (dk σ n))) ∧ Ar E α σ hs cnt ks kd w9) := by
  have hW := hA.W
  have hwP := hW.P
  have hwA := hW.A
  refine ctn_of (by decide +kernel) (Nat.le_of_ble_eq_true rfl) (fun Ω hB => ?_)
  have C := hB.1 0 (Nat.zero_le _)
  show Ω 0 w [(0, .ref (α 0)), (1, .int (nI 5)), (2, .int (nI n)), (3, .int (nI 0)), (4, .int u3)] [] 0
  refine r_iload_n C (i := 1) 1 dL_call_0 rfl rfl ?_
  refine r_tabIn (off := 144) C 145 dL_call_1 (by decide) (by decide) (by decide) (by decide) ?_
  refine r_aload_n C (i := 0) 0 dL_call_145 rfl rfl ?_
  refine r_iload_n C (i := 2) 2 dL_call_146 rfl rfl ?_
  refine r_iload_n C (i := 3) 3 dL_call_147 rfl rfl ?_
  refine Ca.one hB.2.2.2 (j := 0) (k' := 0) (rest := []) (Nat.le_refl _) (t_night_0 hst hA (hn := hn)) lk_L_tryNight w_3_209 dL_call_148 rfl ⟨by decide, by decide⟩ (Nat.le_of_ble_eq_true rfl) (fun v9 w9 hp => ?_)
  obtain ⟨rfl, hA9⟩ := hp
  exact (hB.2.2.1 0 (Nat.le_refl _)).1 _ _ _ _ _ dL_call_151 rfl rfl ⟨rfl, hA9⟩ (hA9.fst.trans hA.fst.symm)
set_option maxRecDepth 100000 in
theorem cl_night_1 {l : Launch} {E : Ev} (hst : l.stackTraces = false) {α : Nat → Nat} {σ : Sg} {hs : Nat → Sg} {cnt : Nat} {ks : Nat → Sg} {kd : Nat → Nat} {w : va_W} (hA : Ar E α σ hs cnt ks kd w) {n : Nat}(hn : n < 20) {u3 : Int32} : CtN l E yL_call cL_call 5 (some FieldType.int) none 9 195 0 [.ref (α 0), .int (nI 5), .int (nI n), .int (nI 1), .int u3] w (fun v9 w9 => v9 = some (.int (nI (tak σ n))) ∧ Ar E α σ hs cnt ks kd w9) := by
  have hW := hA.W
  have hwP := hW.P
  have hwA := hW.A
  refine ctn_of (by decide +kernel) (Nat.le_of_ble_eq_true rfl) (fun Ω hB => ?_)
  have C := hB.1 0 (Nat.zero_le _)
  show Ω 0 w [(0, .ref (α 0)), (1, .int (nI 5)), (2, .int (nI n)), (3, .int (nI 1)), (4, .int u3)] [] 0
  refine r_iload_n C (i := 1) 1 dL_call_0 rfl rfl ?_
  refine r_tabIn (off := 144) C 145 dL_call_1 (by decide) (by decide) (by decide) (by decide) ?_
  refine r_aload_n C (i := 0) 0 dL_call_145 rfl rfl ?_
  refine r_iload_n C (i := 2) 2 dL_call_146 rfl rfl ?_
  refine r_iload_n C (i := 3) 3 dL_call_147 rfl rfl ?_
  refine Ca.one hB.2.2.2 (j := 0) (k' := 0) (rest := []) (Nat.le_refl _) (t_night_1 hst hA (hn := hn)) lk_L_tryNight w_3_209 dL_call_148 rfl ⟨by decide, by decide⟩ (Nat.le_of_ble_eq_true rfl) (fun v9 w9 hp => ?_)
  obtain ⟨rfl, hA9⟩ := hp
  exact (hB.2.2.1 0 (Nat.le_refl _)).1 _ _ _ _ _ dL_call_151 rfl rfl ⟨rfl, hA9⟩ (hA9.fst.trans hA.fst.symm)
set_option maxRecDepth 100000 in
theorem cl_night_2 {l : Launch} {E : Ev} (hst : l.stackTraces = false) {α : Nat → Nat} {σ : Sg} {hs : Nat → Sg} {cnt : Nat} {ks : Nat → Sg} {kd : Nat → Nat} {w : va_W} (hA : Ar E α σ hs cnt ks kd w) {n : Nat}(hn : n < 20) {u3 : Int32} : CtN l E yL_call cL_call 5 (some FieldType.int) none 9 195 0 [.ref (α 0), .int (nI 5), .int (nI n), .int (nI 2), .int u3] w (fun v9 w9 => v9 = some (.int (nI (bm (fun a => sI σ a n) 10))) ∧ Ar E α σ hs cnt ks kd w9) := by
  have hW := hA.W
  have hwP := hW.P
  have hwA := hW.A
  refine ctn_of (by decide +kernel) (Nat.le_of_ble_eq_true rfl) (fun Ω hB => ?_)
  have C := hB.1 0 (Nat.zero_le _)
  show Ω 0 w [(0, .ref (α 0)), (1, .int (nI 5)), (2, .int (nI n)), (3, .int (nI 2)), (4, .int u3)] [] 0
  refine r_iload_n C (i := 1) 1 dL_call_0 rfl rfl ?_
  refine r_tabIn (off := 144) C 145 dL_call_1 (by decide) (by decide) (by decide) (by decide) ?_
  refine r_aload_n C (i := 0) 0 dL_call_145 rfl rfl ?_
  refine r_iload_n C (i := 2) 2 dL_call_146 rfl rfl ?_
  refine r_iload_n C (i := 3) 3 dL_call_147 rfl rfl ?_
  refine Ca.one hB.2.2.2 (j := 0) (k' := 0) (rest := []) (Nat.le_refl _) (t_night_2 hst hA (hn := hn)) lk_L_tryNight w_3_209 dL_call_148 rfl ⟨by decide, by decide⟩ (Nat.le_of_ble_eq_true rfl) (fun v9 w9 hp => ?_)
  obtain ⟨rfl, hA9⟩ := hp
  exact (hB.2.2.1 0 (Nat.le_refl _)).1 _ _ _ _ _ dL_call_151 rfl rfl ⟨rfl, hA9⟩ (hA9.fst.trans hA.fst.symm)
set_option maxRecDepth 100000 in
theorem cl_night_3 {l : Launch} {E : Ev} (hst : l.stackTraces = false) {α : Nat → Nat} {σ : Sg} {hs : Nat → Sg} {cnt : Nat} {ks : Nat → Sg} {kd : Nat → Nat} {w : va_W} (hA : Ar E α σ hs cnt ks kd w) {n : Nat}(hn : n < 20) {u3 : Int32} : CtN l E yL_call cL_call 5 (some FieldType.int) none 9 195 0 [.ref (α 0), .int (nI 5), .int (nI n), .int (nI 3), .int u3] w (fun v9 w9 => v9 = some (.int (nI (plr σ n))) ∧ Ar E α σ hs cnt ks kd w9) := by
  have hW := hA.W
  have hwP := hW.P
  have hwA := hW.A
  refine ctn_of (by decide +kernel) (Nat.le_of_ble_eq_true rfl) (fun Ω hB => ?_)
  have C := hB.1 0 (Nat.zero_le _)
  show Ω 0 w [(0, .ref (α 0)), (1, .int (nI 5)), (2, .int (nI n)), (3, .int (nI 3)), (4, .int u3)] [] 0
  refine r_iload_n C (i := 1) 1 dL_call_0 rfl rfl ?_
  refine r_tabIn (off := 144) C 145 dL_call_1 (by decide) (by decide) (by decide) (by decide) ?_
  refine r_aload_n C (i := 0) 0 dL_call_145 rfl rfl ?_
  refine r_iload_n C (i := 2) 2 dL_call_146 rfl rfl ?_
  refine r_iload_n C (i := 3) 3 dL_call_147 rfl rfl ?_
  refine Ca.one hB.2.2.2 (j := 0) (k' := 0) (rest := []) (Nat.le_refl _) (t_night_3 hst hA (hn := hn)) lk_L_tryNight w_3_209 dL_call_148 rfl ⟨by decide, by decide⟩ (Nat.le_of_ble_eq_true rfl) (fun v9 w9 hp => ?_)
  obtain ⟨rfl, hA9⟩ := hp
  exact (hB.2.2.1 0 (Nat.le_refl _)).1 _ _ _ _ _ dL_call_151 rfl rfl ⟨rfl, hA9⟩ (hA9.fst.trans hA.fst.symm)
set_option maxRecDepth 100000 in
theorem cl_night_4 {l : Launch} {E : Ev} (hst : l.stackTraces = false) {α : Nat → Nat} {σ : Sg} {hs : Nat → Sg} {cnt : Nat} {ks : Nat → Sg} {kd : Nat → Nat} {w : va_W} (hA : Ar E α σ hs cnt ks kd w) {n : Nat}(hn : n < 20) {u3 : Int32} : CtN l E yL_call cL_call 5 (some FieldType.int) none 9 195 0 [.ref (α 0), .int (nI 5), .int (nI n), .int (nI 4), .int u3] w (fun v9 w9 => v9 = some (.int (nI (otk σ n))) ∧ Ar E α σ hs cnt ks kd w9) := by
  have hW := hA.W
  have hwP := hW.P
  have hwA := hW.A
  refine ctn_of (by decide +kernel) (Nat.le_of_ble_eq_true rfl) (fun Ω hB => ?_)
  have C := hB.1 0 (Nat.zero_le _)
  show Ω 0 w [(0, .ref (α 0)), (1, .int (nI 5)), (2, .int (nI n)), (3, .int (nI 4)), (4, .int u3)] [] 0
  refine r_iload_n C (i := 1) 1 dL_call_0 rfl rfl ?_
  refine r_tabIn (off := 144) C 145 dL_call_1 (by decide) (by decide) (by decide) (by decide) ?_
  refine r_aload_n C (i := 0) 0 dL_call_145 rfl rfl ?_
  refine r_iload_n C (i := 2) 2 dL_call_146 rfl rfl ?_
  refine r_iload_n C (i := 3) 3 dL_call_147 rfl rfl ?_
  refine Ca.one hB.2.2.2 (j := 0) (k' := 0) (rest := []) (Nat.le_refl _) (t_night_4 hst hA (hn := hn)) lk_L_tryNight w_3_209 dL_call_148 rfl ⟨by decide, by decide⟩ (Nat.le_of_ble_eq_true rfl) (fun v9 w9 hp => ?_)
  obtain ⟨rfl, hA9⟩ := hp
  exact (hB.2.2.1 0 (Nat.le_refl _)).1 _ _ _ _ _ dL_call_151 rfl rfl ⟨rfl, hA9⟩ (hA9.fst.trans hA.fst.symm)
set_option maxRecDepth 100000 in
theorem cl_night_na {l : Launch} {E : Ev} (hst : l.stackTraces = false) {α : Nat → Nat} {σ : Sg} {hs : Nat → Sg} {cnt : Nat} {ks : Nat → Sg} {kd : Nat → Nat} {w : va_W} (hA : Ar E α σ hs cnt ks kd w) {x y : Int32}(hx : ¬ vI x 20) {u3 : Int32} : CtN l E yL_call cL_call 5 (some FieldType.int) none 9 195 1 [.ref (α 0), .int (nI 5), .int x, .int y, .int u3] w (fun v9 w9 => v9 = some (.int (-9999001)) ∧ Ar E α σ hs cnt ks kd w9) := by
  have hW := hA.W
  have hwP := hW.P
  have hwA := hW.A
  refine ctn_of (by decide +kernel) (Nat.le_of_ble_eq_true rfl) (fun Ω hB => ?_)
  have C := hB.1 0 (Nat.zero_le _)
  show Ω 0 w [(0, .ref (α 0)), (1, .int (nI 5)), (2, .int x), (3, .int y), (4, .int u3)] [] 0
  refine r_iload_n C (i := 1) 1 dL_call_0 rfl rfl ?_
  refine r_tabIn (off := 144) C 145 dL_call_1 (by decide) (by decide) (by decide) (by decide) ?_
  refine r_aload_n C (i := 0) 0 dL_call_145 rfl rfl ?_
  refine r_iload_n C (i := 2) 2 dL_call_146 rfl rfl ?_
  refine r_iload_n C (i := 3) 3 dL_call_147 rfl rfl ?_
  refine Ca.one hB.2.2.2 (j := 0) (k' := 1) (rest := []) (Nat.le_refl _) (t_night_na hst hA (hx := hx)) lk_L_tryNight w_3_209 dL_call_148 rfl ⟨by decide, by decide⟩ (Nat.le_of_ble_eq_true rfl) (fun v9 w9 hp => ?_)
  obtain ⟨rfl, hA9⟩ := hp
  exact (hB.2.2.1 1 (Nat.le_refl _)).1 _ _ _ _ _ dL_call_151 rfl rfl ⟨rfl, hA9⟩ (hA9.fst.trans hA.fst.symm)
set_option maxRecDepth 100000 in
theorem cl_night_nb {l : Launch} {E : Ev} (hst : l.stackTraces = false) {α : Nat → Nat} {σ : Sg} {hs : Nat → Sg} {cnt : Nat} {ks : Nat → Sg} {kd : Nat → Nat} {w : va_W} (hA : Ar E α σ hs cnt ks kd w) {n : Nat}{x : Int32}(hn : n < 20)(hx : ¬ vI x 5) {u3 : Int32} : CtN l E yL_call cL_call 5 (some FieldType.int) none 9 195 1 [.ref (α 0), .int (nI 5), .int (nI n), .int x, .int u3] w (fun v9 w9 => v9 = some (.int (-9999002)) ∧ Ar E α σ hs cnt ks kd w9) := by
  have hW := hA.W
  have hwP := hW.P
  have hwA := hW.A
  refine ctn_of (by decide +kernel) (Nat.le_of_ble_eq_true rfl) (fun Ω hB => ?_)
  have C := hB.1 0 (Nat.zero_le _)
  show Ω 0 w [(0, .ref (α 0)), (1, .int (nI 5)), (2, .int (nI n)), (3, .int x), (4, .int u3)] [] 0
  refine r_iload_n C (i := 1) 1 dL_call_0 rfl rfl ?_
  refine r_tabIn (off := 144) C 145 dL_call_1 (by decide) (by decide) (by decide) (by decide) ?_
  refine r_aload_n C (i := 0) 0 dL_call_145 rfl rfl ?_
  refine r_iload_n C (i := 2) 2 dL_call_146 rfl rfl ?_
  refine r_iload_n C (i := 3) 3 dL_call_147 rfl rfl ?_
  refine Ca.one hB.2.2.2 (j := 0) (k' := 1) (rest := []) (Nat.le_refl _) (t_night_nb hst hA (hn := hn) (hx := hx)) lk_L_tryNight w_3_209 dL_call_148 rfl ⟨by decide, by decide⟩ (Nat.le_of_ble_eq_true rfl) (fun v9 w9 hp => ?_)
  obtain ⟨rfl, hA9⟩ := hp
  exact (hB.2.2.1 1 (Nat.le_refl _)).1 _ _ _ _ _ dL_call_151 rfl rfl ⟨rfl, hA9⟩ (hA9.fst.trans hA.fst.symm)
set_option maxRecDepth 100000 in
theorem cl_actor_0 {l : Launch} {E : Ev} (hst : l.stackTraces = false) {α : Nat → Nat} {σ : Sg} {hs : Nat → Sg} {cnt : Nat} {ks : Nat → Sg} {kd : Nat → Nat} {w : va_W} (hA : Ar E α σ hs cnt ks kd w) {a : Nat}(ha : a < sA σ) {u3 : Int32} : CtN l E yL_call cL_call 5 (some FieldType.int) none 9 195 0 [.ref (α 0), .int (nI 6), .int (nI a), .int (nI 0), .int u3] w (fun v9 w9 => v9 = some (.int (nI (sF σ a))) ∧ Ar E α σ hs cnt ks kd w9) := by
  have hW := hA.W
  have hwP := hW.P
  have hwA := hW.A
  refine ctn_of (by decide +kernel) (Nat.le_of_ble_eq_true rfl) (fun Ω hB => ?_)
  have C := hB.1 0 (Nat.zero_le _)
  show Ω 0 w [(0, .ref (α 0)), (1, .int (nI 6)), (2, .int (nI a)), (3, .int (nI 0)), (4, .int u3)] [] 0
  refine r_iload_n C (i := 1) 1 dL_call_0 rfl rfl ?_
  refine r_tabIn (off := 151) C 152 dL_call_1 (by decide) (by decide) (by decide) (by decide) ?_
  refine r_aload_n C (i := 0) 0 dL_call_152 rfl rfl ?_
  refine r_iload_n C (i := 2) 2 dL_call_153 rfl rfl ?_
  refine r_iload_n C (i := 3) 3 dL_call_154 rfl rfl ?_
  refine Ca.one hB.2.2.2 (j := 0) (k' := 0) (rest := []) (Nat.le_refl _) (t_actor_0 hst hA (ha := ha)) lk_L_tryActor w_3_227 dL_call_155 rfl ⟨by decide, by decide⟩ (Nat.le_of_ble_eq_true rfl) (fun v9 w9 hp => ?_)
  obtain ⟨rfl, hA9⟩ := hp
  exact (hB.2.2.1 0 (Nat.le_refl _)).1 _ _ _ _ _ dL_call_158 rfl rfl ⟨rfl, hA9⟩ (hA9.fst.trans hA.fst.symm)
set_option maxRecDepth 100000 in
theorem cl_actor_1 {l : Launch} {E : Ev} (hst : l.stackTraces = false) {α : Nat → Nat} {σ : Sg} {hs : Nat → Sg} {cnt : Nat} {ks : Nat → Sg} {kd : Nat → Nat} {w : va_W} (hA : Ar E α σ hs cnt ks kd w) {a : Nat}(ha : a < sA σ) {u3 : Int32} : CtN l E yL_call cL_call 5 (some FieldType.int) none 9 195 0 [.ref (α 0), .int (nI 6), .int (nI a), .int (nI 1), .int u3] w (fun v9 w9 => v9 = some (.int (nI (pcN σ a 20))) ∧ Ar E α σ hs cnt ks kd w9) := by
  have hW := hA.W
  have hwP := hW.P
  have hwA := hW.A
  refine ctn_of (by decide +kernel) (Nat.le_of_ble_eq_true rfl) (fun Ω hB => ?_)
  have C := hB.1 0 (Nat.zero_le _)
  show Ω 0 w [(0, .ref (α 0)), (1, .int (nI 6)), (2, .int (nI a)), (3, .int (nI 1)), (4, .int u3)] [] 0
  refine r_iload_n C (i := 1) 1 dL_call_0 rfl rfl ?_
  refine r_tabIn (off := 151) C 152 dL_call_1 (by decide) (by decide) (by decide) (by decide) ?_
  refine r_aload_n C (i := 0) 0 dL_call_152 rfl rfl ?_
  refine r_iload_n C (i := 2) 2 dL_call_153 rfl rfl ?_
  refine r_iload_n C (i := 3) 3 dL_call_154 rfl rfl ?_
  refine Ca.one hB.2.2.2 (j := 0) (k' := 0) (rest := []) (Nat.le_refl _) (t_actor_1 hst hA (ha := ha)) lk_L_tryActor w_3_227 dL_call_155 rfl ⟨by decide, by decide⟩ (Nat.le_of_ble_eq_true rfl) (fun v9 w9 hp => ?_)
  obtain ⟨rfl, hA9⟩ := hp
  exact (hB.2.2.1 0 (Nat.le_refl _)).1 _ _ _ _ _ dL_call_158 rfl rfl ⟨rfl, hA9⟩ (hA9.fst.trans hA.fst.symm)
set_option maxRecDepth 100000 in
theorem cl_actor_2 {l : Launch} {E : Ev} (hst : l.stackTraces = false) {α : Nat → Nat} {σ : Sg} {hs : Nat → Sg} {cnt : Nat} {ks : Nat → Sg} {kd : Nat → Nat} {w : va_W} (hA : Ar E α σ hs cnt ks kd w) {a : Nat}(ha : a < sA σ) {u3 : Int32} : CtN l E yL_call cL_call 5 (some FieldType.int) none 9 195 0 [.ref (α 0), .int (nI 6), .int (nI a), .int (nI 2), .int u3] w (fun v9 w9 => v9 = some (.int (mI (pfN σ a 20))) ∧ Ar E α σ hs cnt ks kd w9) := by
  have hW := hA.W
  have hwP := hW.P
  have hwA := hW.A
  refine ctn_of (by decide +kernel) (Nat.le_of_ble_eq_true rfl) (fun Ω hB => ?_)
  have C := hB.1 0 (Nat.zero_le _)
  show Ω 0 w [(0, .ref (α 0)), (1, .int (nI 6)), (2, .int (nI a)), (3, .int (nI 2)), (4, .int u3)] [] 0
  refine r_iload_n C (i := 1) 1 dL_call_0 rfl rfl ?_
  refine r_tabIn (off := 151) C 152 dL_call_1 (by decide) (by decide) (by decide) (by decide) ?_
  refine r_aload_n C (i := 0) 0 dL_call_152 rfl rfl ?_
  refine r_iload_n C (i := 2) 2 dL_call_153 rfl rfl ?_
  refine r_iload_n C (i := 3) 3 dL_call_154 rfl rfl ?_
  refine Ca.one hB.2.2.2 (j := 0) (k' := 0) (rest := []) (Nat.le_refl _) (t_actor_2 hst hA (ha := ha)) lk_L_tryActor w_3_227 dL_call_155 rfl ⟨by decide, by decide⟩ (Nat.le_of_ble_eq_true rfl) (fun v9 w9 hp => ?_)
  obtain ⟨rfl, hA9⟩ := hp
  exact (hB.2.2.1 0 (Nat.le_refl _)).1 _ _ _ _ _ dL_call_158 rfl rfl ⟨rfl, hA9⟩ (hA9.fst.trans hA.fst.symm)
set_option maxRecDepth 100000 in
theorem cl_actor_3 {l : Launch} {E : Ev} (hst : l.stackTraces = false) {α : Nat → Nat} {σ : Sg} {hs : Nat → Sg} {cnt : Nat} {ks : Nat → Sg} {kd : Nat → Nat} {w : va_W} (hA : Ar E α σ hs cnt ks kd w) {a : Nat}(ha : a < sA σ) {u3 : Int32} : CtN l E yL_call cL_call 5 (some FieldType.int) none 9 195 0 [.ref (α 0), .int (nI 6), .int (nI a), .int (nI 3), .int u3] w (fun v9 w9 => v9 = some (.int (mI (plN σ a 20))) ∧ Ar E α σ hs cnt ks kd w9) := by
  have hW := hA.W
  have hwP := hW.P
  have hwA := hW.A
  refine ctn_of (by decide +kernel) (Nat.le_of_ble_eq_true rfl) (fun Ω hB => ?_)
  have C := hB.1 0 (Nat.zero_le _)
  show Ω 0 w [(0, .ref (α 0)), (1, .int (nI 6)), (2, .int (nI a)), (3, .int (nI 3)), (4, .int u3)] [] 0
  refine r_iload_n C (i := 1) 1 dL_call_0 rfl rfl ?_
  refine r_tabIn (off := 151) C 152 dL_call_1 (by decide) (by decide) (by decide) (by decide) ?_
  refine r_aload_n C (i := 0) 0 dL_call_152 rfl rfl ?_
  refine r_iload_n C (i := 2) 2 dL_call_153 rfl rfl ?_
  refine r_iload_n C (i := 3) 3 dL_call_154 rfl rfl ?_
  refine Ca.one hB.2.2.2 (j := 0) (k' := 0) (rest := []) (Nat.le_refl _) (t_actor_3 hst hA (ha := ha)) lk_L_tryActor w_3_227 dL_call_155 rfl ⟨by decide, by decide⟩ (Nat.le_of_ble_eq_true rfl) (fun v9 w9 hp => ?_)
  obtain ⟨rfl, hA9⟩ := hp
  exact (hB.2.2.1 0 (Nat.le_refl _)).1 _ _ _ _ _ dL_call_158 rfl rfl ⟨rfl, hA9⟩ (hA9.fst.trans hA.fst.symm)
set_option maxRecDepth 100000 in
theorem cl_actor_4 {l : Launch} {E : Ev} (hst : l.stackTraces = false) {α : Nat → Nat} {σ : Sg} {hs : Nat → Sg} {cnt : Nat} {ks : Nat → Sg} {kd : Nat → Nat} {w : va_W} (hA : Ar E α σ hs cnt ks kd w) {a : Nat}(ha : a < sA σ) {u3 : Int32} : CtN l E yL_call cL_call 5 (some FieldType.int) none 9 195 0 [.ref (α 0), .int (nI 6), .int (nI a), .int (nI 4), .int u3] w (fun v9 w9 => v9 = some (.int (nI (paN σ a 20))) ∧ Ar E α σ hs cnt ks kd w9) := by
  have hW := hA.W
  have hwP := hW.P
  have hwA := hW.A
  refine ctn_of (by decide +kernel) (Nat.le_of_ble_eq_true rfl) (fun Ω hB => ?_)
  have C := hB.1 0 (Nat.zero_le _)
  show Ω 0 w [(0, .ref (α 0)), (1, .int (nI 6)), (2, .int (nI a)), (3, .int (nI 4)), (4, .int u3)] [] 0
  refine r_iload_n C (i := 1) 1 dL_call_0 rfl rfl ?_
  refine r_tabIn (off := 151) C 152 dL_call_1 (by decide) (by decide) (by decide) (by decide) ?_
  refine r_aload_n C (i := 0) 0 dL_call_152 rfl rfl ?_
  refine r_iload_n C (i := 2) 2 dL_call_153 rfl rfl ?_
  refine r_iload_n C (i := 3) 3 dL_call_154 rfl rfl ?_
  refine Ca.one hB.2.2.2 (j := 0) (k' := 0) (rest := []) (Nat.le_refl _) (t_actor_4 hst hA (ha := ha)) lk_L_tryActor w_3_227 dL_call_155 rfl ⟨by decide, by decide⟩ (Nat.le_of_ble_eq_true rfl) (fun v9 w9 hp => ?_)
  obtain ⟨rfl, hA9⟩ := hp
  exact (hB.2.2.1 0 (Nat.le_refl _)).1 _ _ _ _ _ dL_call_158 rfl rfl ⟨rfl, hA9⟩ (hA9.fst.trans hA.fst.symm)
set_option maxRecDepth 100000 in
theorem cl_actor_5 {l : Launch} {E : Ev} (hst : l.stackTraces = false) {α : Nat → Nat} {σ : Sg} {hs : Nat → Sg} {cnt : Nat} {ks : Nat → Sg} {kd : Nat → Nat} {w : va_W} (hA : Ar E α σ hs cnt ks kd w) {a : Nat}(ha : a < sA σ) {u3 : Int32} : CtN l E yL_call cL_call 5 (some FieldType.int) none 9 195 0 [.ref (α 0), .int (nI 6), .int (nI a), .int (nI 5), .int u3] w (fun v9 w9 => v9 = some (.int (nI (cntI σ a 20))) ∧ Ar E α σ hs cnt ks kd w9) := by
  have hW := hA.W
  have hwP := hW.P
  have hwA := hW.A
  refine ctn_of (by decide +kernel) (Nat.le_of_ble_eq_true rfl) (fun Ω hB => ?_)
  have C := hB.1 0 (Nat.zero_le _)
  show Ω 0 w [(0, .ref (α 0)), (1, .int (nI 6)), (2, .int (nI a)), (3, .int (nI 5)), (4, .int u3)] [] 0
  refine r_iload_n C (i := 1) 1 dL_call_0 rfl rfl ?_
  refine r_tabIn (off := 151) C 152 dL_call_1 (by decide) (by decide) (by decide) (by decide) ?_
  refine r_aload_n C (i := 0) 0 dL_call_152 rfl rfl ?_
  refine r_iload_n C (i := 2) 2 dL_call_153 rfl rfl ?_
  refine r_iload_n C (i := 3) 3 dL_call_154 rfl rfl ?_
  refine Ca.one hB.2.2.2 (j := 0) (k' := 0) (rest := []) (Nat.le_refl _) (t_actor_5 hst hA (ha := ha)) lk_L_tryActor w_3_227 dL_call_155 rfl ⟨by decide, by decide⟩ (Nat.le_of_ble_eq_true rfl) (fun v9 w9 hp => ?_)
  obtain ⟨rfl, hA9⟩ := hp
  exact (hB.2.2.1 0 (Nat.le_refl _)).1 _ _ _ _ _ dL_call_158 rfl rfl ⟨rfl, hA9⟩ (hA9.fst.trans hA.fst.symm)
set_option maxRecDepth 100000 in
theorem cl_actor_na {l : Launch} {E : Ev} (hst : l.stackTraces = false) {α : Nat → Nat} {σ : Sg} {hs : Nat → Sg} {cnt : Nat} {ks : Nat → Sg} {kd : Nat → Nat} {w : va_W} (hA : Ar E α σ hs cnt ks kd w) {x y : Int32}(hx : ¬ vI x (sA σ)) {u3 : Int32} : CtN l E yL_call cL_call 5 (some FieldType.int) none 9 195 1 [.ref (α 0), .int (nI 6), .int x, .int y, .int u3] w (fun v9 w9 => v9 = some (.int (-9999001)) ∧ Ar E α σ hs cnt ks kd w9) := by
  have hW := hA.W
  have hwP := hW.P
  have hwA := hW.A
  refine ctn_of (by decide +kernel) (Nat.le_of_ble_eq_true rfl) (fun Ω hB => ?_)
  have C := hB.1 0 (Nat.zero_le _)
  show Ω 0 w [(0, .ref (α 0)), (1, .int (nI 6)), (2, .int x), (3, .int y), (4, .int u3)] [] 0
  refine r_iload_n C (i := 1) 1 dL_call_0 rfl rfl ?_
  refine r_tabIn (off := 151) C 152 dL_call_1 (by decide) (by decide) (by decide) (by decide) ?_
  refine r_aload_n C (i := 0) 0 dL_call_152 rfl rfl ?_
  refine r_iload_n C (i := 2) 2 dL_call_153 rfl rfl ?_
  refine r_iload_n C (i := 3) 3 dL_call_154 rfl rfl ?_
  refine Ca.one hB.2.2.2 (j := 0) (k' := 1) (rest := []) (Nat.le_refl _) (t_actor_na hst hA (hx := hx)) lk_L_tryActor w_3_227 dL_call_155 rfl ⟨by decide, by decide⟩ (Nat.le_of_ble_eq_true rfl) (fun v9 w9 hp => ?_)
  obtain ⟨rfl, hA9⟩ := hp
  exact (hB.2.2.1 1 (Nat.le_refl _)).1 _ _ _ _ _ dL_call_158 rfl rfl ⟨rfl, hA9⟩ (hA9.fst.trans hA.fst.symm)
set_option maxRecDepth 100000 in
theorem cl_actor_nb {l : Launch} {E : Ev} (hst : l.stackTraces = false) {α : Nat → Nat} {σ : Sg} {hs : Nat → Sg} {cnt : Nat} {ks : Nat → Sg} {kd : Nat → Nat} {w : va_W} (hA : Ar E α σ hs cnt ks kd w) {a : Nat}{x : Int32}(ha : a < sA σ)(hx : ¬ vI x 6) {u3 : Int32} : CtN l E yL_call cL_call 5 (some FieldType.int) none 9 195 1 [.ref (α 0), .int (nI 6), .int (nI a), .int x, .int u3] w (fun v9 w9 => v9 = some (.int (-9999002)) ∧ Ar E α σ hs cnt ks kd w9) := by
  have hW := hA.W
  have hwP := hW.P
  have hwA := hW.A
  refine ctn_of (by decide +kernel) (Nat.le_of_ble_eq_true rfl) (fun Ω hB => ?_)
  have C := hB.1 0 (Nat.zero_le _)
  show Ω 0 w [(0, .ref (α 0)), (1, .int (nI 6)), (2, .int (nI a)), (3, .int x), (4, .int u3)] [] 0
  refine r_iload_n C (i := 1) 1 dL_call_0 rfl rfl ?_
  refine r_tabIn (off := 151) C 152 dL_call_1 (by decide) (by decide) (by decide) (by decide) ?_
  refine r_aload_n C (i := 0) 0 dL_call_152 rfl rfl ?_
  refine r_iload_n C (i := 2) 2 dL_call_153 rfl rfl ?_
  refine r_iload_n C (i := 3) 3 dL_call_154 rfl rfl ?_
  refine Ca.one hB.2.2.2 (j := 0) (k' := 1) (rest := []) (Nat.le_refl _) (t_actor_nb hst hA (ha := ha) (hx := hx)) lk_L_tryActor w_3_227 dL_call_155 rfl ⟨by decide, by decide⟩ (Nat.le_of_ble_eq_true rfl) (fun v9 w9 hp => ?_)
  obtain ⟨rfl, hA9⟩ := hp
  exact (hB.2.2.1 1 (Nat.le_refl _)).1 _ _ _ _ _ dL_call_158 rfl rfl ⟨rfl, hA9⟩ (hA9.fst.trans hA.fst.symm)
set_option maxRecDepth 100000 in
theorem cl_ranked {l : Launch} {E : Ev} (hst : l.stackTraces = false) {α : Nat → Nat} {σ : Sg} {hs : Nat → Sg} {cnt : Nat} {ks : Nat → Sg} {kd : Nat → Nat} {w : va_W} (hA : Ar E α σ hs cnt ks kd w) {p k : Nat}(hp : p < sP σ)(hk : k < 2147483648) {u3 : Int32} : CtN l E yL_call cL_call 5 (some FieldType.int) none 9 195 0 [.ref (α 0), .int (nI 7), .int (nI p), .int (nI k), .int u3] w (fun v9 w9 => v9 = some (.int (mI (sUm σ p k))) ∧ Ar E α σ hs cnt ks kd w9) := by
  have hW := hA.W
  have hwP := hW.P
  have hwA := hW.A
  refine ctn_of (by decide +kernel) (Nat.le_of_ble_eq_true rfl) (fun Ω hB => ?_)
  have C := hB.1 0 (Nat.zero_le _)
  show Ω 0 w [(0, .ref (α 0)), (1, .int (nI 7)), (2, .int (nI p)), (3, .int (nI k)), (4, .int u3)] [] 0
  refine r_iload_n C (i := 1) 1 dL_call_0 rfl rfl ?_
  refine r_tabIn (off := 158) C 159 dL_call_1 (by decide) (by decide) (by decide) (by decide) ?_
  refine r_aload_n C (i := 0) 0 dL_call_159 rfl rfl ?_
  refine r_iload_n C (i := 2) 2 dL_call_160 rfl rfl ?_
  refine r_iload_n C (i := 3) 3 dL_call_161 rfl rfl ?_
  refine Ca.one hB.2.2.2 (j := 0) (k' := 0) (rest := []) (Nat.le_refl _) (t_ranked hst hA (hp := hp) (hk := hk)) lk_L_tryRanked w_4_17 dL_call_162 rfl ⟨by decide, by decide⟩ (Nat.le_of_ble_eq_true rfl) (fun v9 w9 hp => ?_)
  obtain ⟨rfl, hA9⟩ := hp
  exact (hB.2.2.1 0 (Nat.le_refl _)).1 _ _ _ _ _ dL_call_165 rfl rfl ⟨rfl, hA9⟩ (hA9.fst.trans hA.fst.symm)
set_option maxRecDepth 100000 in
theorem cl_ranked_na {l : Launch} {E : Ev} (hst : l.stackTraces = false) {α : Nat → Nat} {σ : Sg} {hs : Nat → Sg} {cnt : Nat} {ks : Nat → Sg} {kd : Nat → Nat} {w : va_W} (hA : Ar E α σ hs cnt ks kd w) {x y : Int32}(hx : ¬ vI x (sP σ)) {u3 : Int32} : CtN l E yL_call cL_call 5 (some FieldType.int) none 9 195 1 [.ref (α 0), .int (nI 7), .int x, .int y, .int u3] w (fun v9 w9 => v9 = some (.int (-9999001)) ∧ Ar E α σ hs cnt ks kd w9) := by
  have hW := hA.W
  have hwP := hW.P
  have hwA := hW.A
  refine ctn_of (by decide +kernel) (Nat.le_of_ble_eq_true rfl) (fun Ω hB => ?_)
  have C := hB.1 0 (Nat.zero_le _)
  show Ω 0 w [(0, .ref (α 0)), (1, .int (nI 7)), (2, .int x), (3, .int y), (4, .int u3)] [] 0
  refine r_iload_n C (i := 1) 1 dL_call_0 rfl rfl ?_
  refine r_tabIn (off := 158) C 159 dL_call_1 (by decide) (by decide) (by decide) (by decide) ?_
  refine r_aload_n C (i := 0) 0 dL_call_159 rfl rfl ?_
  refine r_iload_n C (i := 2) 2 dL_call_160 rfl rfl ?_
  refine r_iload_n C (i := 3) 3 dL_call_161 rfl rfl ?_
  refine Ca.one hB.2.2.2 (j := 0) (k' := 1) (rest := []) (Nat.le_refl _) (t_ranked_na hst hA (hx := hx)) lk_L_tryRanked w_4_17 dL_call_162 rfl ⟨by decide, by decide⟩ (Nat.le_of_ble_eq_true rfl) (fun v9 w9 hp => ?_)
  obtain ⟨rfl, hA9⟩ := hp
  exact (hB.2.2.1 1 (Nat.le_refl _)).1 _ _ _ _ _ dL_call_165 rfl rfl ⟨rfl, hA9⟩ (hA9.fst.trans hA.fst.symm)
set_option maxRecDepth 100000 in
theorem cl_ranked_nb {l : Launch} {E : Ev} (hst : l.stackTraces = false) {α : Nat → Nat} {σ : Sg} {hs : Nat → Sg} {cnt : Nat} {ks : Nat → Sg} {kd : Nat → Nat} {w : va_W} (hA : Ar E α σ hs cnt ks kd w) {p : Nat}{x : Int32}(hp : p < sP σ)(hx : x < 0) {u3 : Int32} : CtN l E yL_call cL_call 5 (some FieldType.int) none 9 195 1 [.ref (α 0), .int (nI 7), .int (nI p), .int x, .int u3] w (fun v9 w9 => v9 = some (.int (-9999002)) ∧ Ar E α σ hs cnt ks kd w9) := by
  have hW := hA.W
  have hwP := hW.P
  have hwA := hW.A
  refine ctn_of (by decide +kernel) (Nat.le_of_ble_eq_true rfl) (fun Ω hB => ?_)
  have C := hB.1 0 (Nat.zero_le _)
  show Ω 0 w [(0, .ref (α 0)), (1, .int (nI 7)), (2, .int (nI p)), (3, .int x), (4, .int u3)] [] 0
  refine r_iload_n C (i := 1) 1 dL_call_0 rfl rfl ?_
  refine r_tabIn (off := 158) C 159 dL_call_1 (by decide) (by decide) (by decide) (by decide) ?_
  refine r_aload_n C (i := 0) 0 dL_call_159 rfl rfl ?_
  refine r_iload_n C (i := 2) 2 dL_call_160 rfl rfl ?_
  refine r_iload_n C (i := 3) 3 dL_call_161 rfl rfl ?_
  refine Ca.one hB.2.2.2 (j := 0) (k' := 1) (rest := []) (Nat.le_refl _) (t_ranked_nb hst hA (hp := hp) (hx := hx)) lk_L_tryRanked w_4_17 dL_call_162 rfl ⟨by decide, by decide⟩ (Nat.le_of_ble_eq_true rfl) (fun v9 w9 hp => ?_)
  obtain ⟨rfl, hA9⟩ := hp
  exact (hB.2.2.1 1 (Nat.le_refl _)).1 _ _ _ _ _ dL_call_165 rfl rfl ⟨rfl, hA9⟩ (hA9.fst.trans hA.fst.symm)
set_option maxRecDepth 100000 in
theorem cl_found_0 {l : Launch} {E : Ev} (hst : l.stackTraces = false) {α : Nat → Nat} {σ : Sg} {hs : Nat → Sg} {cnt : Nat} {ks : Nat → Sg} {kd : Nat → Nat} {w : va_W} (hA : Ar E α σ hs cnt ks kd w) {k : Nat}(hk : k < sS σ) {u3 : Int32} : CtN l E yL_call cL_call 5 (some FieldType.int) none 9 195 0 [.ref (α 0), .int (nI 8), .int (nI k), .int (nI 0), .int u3] w (fun v9 w9 => v9 = some (.int (nI (sL σ k 0))) ∧ Ar E α σ hs cnt ks kd w9) := by
  have hW := hA.W
  have hwP := hW.P
  have hwA := hW.A
  refine ctn_of (by decide +kernel) (Nat.le_of_ble_eq_true rfl) (fun Ω hB => ?_)
  have C := hB.1 0 (Nat.zero_le _)
  show Ω 0 w [(0, .ref (α 0)), (1, .int (nI 8)), (2, .int (nI k)), (3, .int (nI 0)), (4, .int u3)] [] 0
  refine r_iload_n C (i := 1) 1 dL_call_0 rfl rfl ?_
  refine r_tabIn (off := 165) C 166 dL_call_1 (by decide) (by decide) (by decide) (by decide) ?_
  refine r_aload_n C (i := 0) 0 dL_call_166 rfl rfl ?_
  refine r_iload_n C (i := 2) 2 dL_call_167 rfl rfl ?_
  refine r_iload_n C (i := 3) 3 dL_call_168 rfl rfl ?_
  refine Ca.one hB.2.2.2 (j := 0) (k' := 0) (rest := []) (Nat.le_refl _) (t_found_0 hst hA (hk := hk)) lk_L_tryFound w_4_26 dL_call_169 rfl ⟨by decide, by decide⟩ (Nat.le_of_ble_eq_true rfl) (fun v9 w9 hp => ?_)
  obtain ⟨rfl, hA9⟩ := hp
  exact (hB.2.2.1 0 (Nat.le_refl _)).1 _ _ _ _ _ dL_call_172 rfl rfl ⟨rfl, hA9⟩ (hA9.fst.trans hA.fst.symm)
set_option maxRecDepth 100000 in
theorem cl_found_1 {l : Launch} {E : Ev} (hst : l.stackTraces = false) {α : Nat → Nat} {σ : Sg} {hs : Nat → Sg} {cnt : Nat} {ks : Nat → Sg} {kd : Nat → Nat} {w : va_W} (hA : Ar E α σ hs cnt ks kd w) {k : Nat}(hk : k < sS σ) {u3 : Int32} : CtN l E yL_call cL_call 5 (some FieldType.int) none 9 195 0 [.ref (α 0), .int (nI 8), .int (nI k), .int (nI 1), .int u3] w (fun v9 w9 => v9 = some (.int (nI (sL σ k 1))) ∧ Ar E α σ hs cnt ks kd w9) := by
  have hW := hA.W
  have hwP := hW.P
  have hwA := hW.A
  refine ctn_of (by decide +kernel) (Nat.le_of_ble_eq_true rfl) (fun Ω hB => ?_)
  have C := hB.1 0 (Nat.zero_le _)
  show Ω 0 w [(0, .ref (α 0)), (1, .int (nI 8)), (2, .int (nI k)), (3, .int (nI 1)), (4, .int u3)] [] 0
  refine r_iload_n C (i := 1) 1 dL_call_0 rfl rfl ?_
  refine r_tabIn (off := 165) C 166 dL_call_1 (by decide) (by decide) (by decide) (by decide) ?_
  refine r_aload_n C (i := 0) 0 dL_call_166 rfl rfl ?_
  refine r_iload_n C (i := 2) 2 dL_call_167 rfl rfl ?_
  refine r_iload_n C (i := 3) 3 dL_call_168 rfl rfl ?_
  refine Ca.one hB.2.2.2 (j := 0) (k' := 0) (rest := []) (Nat.le_refl _) (t_found_1 hst hA (hk := hk)) lk_L_tryFound w_4_26 dL_call_169 rfl ⟨by decide, by decide⟩ (Nat.le_of_ble_eq_true rfl) (fun v9 w9 hp => ?_)
  obtain ⟨rfl, hA9⟩ := hp
  exact (hB.2.2.1 0 (Nat.le_refl _)).1 _ _ _ _ _ dL_call_172 rfl rfl ⟨rfl, hA9⟩ (hA9.fst.trans hA.fst.symm)
set_option maxRecDepth 100000 in
theorem cl_found_2 {l : Launch} {E : Ev} (hst : l.stackTraces = false) {α : Nat → Nat} {σ : Sg} {hs : Nat → Sg} {cnt : Nat} {ks : Nat → Sg} {kd : Nat → Nat} {w : va_W} (hA : Ar E α σ hs cnt ks kd w) {k : Nat}(hk : k < sS σ) {u3 : Int32} : CtN l E yL_call cL_call 5 (some FieldType.int) none 9 195 0 [.ref (α 0), .int (nI 8), .int (nI k), .int (nI 2), .int u3] w (fun v9 w9 => v9 = some (.int (nI (sL σ k 2))) ∧ Ar E α σ hs cnt ks kd w9) := by
  have hW := hA.W
  have hwP := hW.P
  have hwA := hW.A
  refine ctn_of (by decide +kernel) (Nat.le_of_ble_eq_true rfl) (fun Ω hB => ?_)
  have C := hB.1 0 (Nat.zero_le _)
  show Ω 0 w [(0, .ref (α 0)), (1, .int (nI 8)), (2, .int (nI k)), (3, .int (nI 2)), (4, .int u3)] [] 0
  refine r_iload_n C (i := 1) 1 dL_call_0 rfl rfl ?_
  refine r_tabIn (off := 165) C 166 dL_call_1 (by decide) (by decide) (by decide) (by decide) ?_
  refine r_aload_n C (i := 0) 0 dL_call_166 rfl rfl ?_
  refine r_iload_n C (i := 2) 2 dL_call_167 rfl rfl ?_
  refine r_iload_n C (i := 3) 3 dL_call_168 rfl rfl ?_
  refine Ca.one hB.2.2.2 (j := 0) (k' := 0) (rest := []) (Nat.le_refl _) (t_found_2 hst hA (hk := hk)) lk_L_tryFound w_4_26 dL_call_169 rfl ⟨by decide, by decide⟩ (Nat.le_of_ble_eq_true rfl) (fun v9 w9 hp => ?_)
  obtain ⟨rfl, hA9⟩ := hp
  exact (hB.2.2.1 0 (Nat.le_refl _)).1 _ _ _ _ _ dL_call_172 rfl rfl ⟨rfl, hA9⟩ (hA9.fst.trans hA.fst.symm)
set_option maxRecDepth 100000 in
theorem cl_found_3 {l : Launch} {E : Ev} (hst : l.stackTraces = false) {α : Nat → Nat} {σ : Sg} {hs : Nat → Sg} {cnt : Nat} {ks : Nat → Sg} {kd : Nat → Nat} {w : va_W} (hA : Ar E α σ hs cnt ks kd w) {k : Nat}(hk : k < sS σ) {u3 : Int32} : CtN l E yL_call cL_call 5 (some FieldType.int) none 9 195 0 [.ref (α 0), .int (nI 8), .int (nI k), .int (nI 3), .int u3] w (fun v9 w9 => v9 = some (.int (nI (sL σ k 3))) ∧ Ar E α σ hs cnt ks kd w9) := by
  have hW := hA.W
  have hwP := hW.P
  have hwA := hW.A
  refine ctn_of (by decide +kernel) (Nat.le_of_ble_eq_true rfl) (fun Ω hB => ?_)
  have C := hB.1 0 (Nat.zero_le _)
  show Ω 0 w [(0, .ref (α 0)), (1, .int (nI 8)), (2, .int (nI k)), (3, .int (nI 3)), (4, .int u3)] [] 0
  refine r_iload_n C (i := 1) 1 dL_call_0 rfl rfl ?_
  refine r_tabIn (off := 165) C 166 dL_call_1 (by decide) (by decide) (by decide) (by decide) ?_
  refine r_aload_n C (i := 0) 0 dL_call_166 rfl rfl ?_
  refine r_iload_n C (i := 2) 2 dL_call_167 rfl rfl ?_
  refine r_iload_n C (i := 3) 3 dL_call_168 rfl rfl ?_
  refine Ca.one hB.2.2.2 (j := 0) (k' := 0) (rest := []) (Nat.le_refl _) (t_found_3 hst hA (hk := hk)) lk_L_tryFound w_4_26 dL_call_169 rfl ⟨by decide, by decide⟩ (Nat.le_of_ble_eq_true rfl) (fun v9 w9 hp => ?_)
  obtain ⟨rfl, hA9⟩ := hp
  exact (hB.2.2.1 0 (Nat.le_refl _)).1 _ _ _ _ _ dL_call_172 rfl rfl ⟨rfl, hA9⟩ (hA9.fst.trans hA.fst.symm)
set_option maxRecDepth 100000 in
theorem cl_found_4 {l : Launch} {E : Ev} (hst : l.stackTraces = false) {α : Nat → Nat} {σ : Sg} {hs : Nat → Sg} {cnt : Nat} {ks : Nat → Sg} {kd : Nat → Nat} {w : va_W} (hA : Ar E α σ hs cnt ks kd w) {k : Nat}(hk : k < sS σ) {u3 : Int32} : CtN l E yL_call cL_call 5 (some FieldType.int) none 9 195 0 [.ref (α 0), .int (nI 8), .int (nI k), .int (nI 4), .int u3] w (fun v9 w9 => v9 = some (.int (nI (if usd σ k then 1 else 0))) ∧ Ar E α σ hs cnt ks kd w9) := by
  have hW := hA.W
  have hwP := hW.P
  have hwA := hW.A
  refine ctn_of (by decide +kernel) (Nat.le_of_ble_eq_true rfl) (fun Ω hB => ?_)
  have C := hB.1 0 (Nat.zero_le _)
  show Ω 0 w [(0, .ref (α 0)), (1, .int (nI 8)), (2, .int (nI k)), (3, .int (nI 4)), (4, .int u3)] [] 0
  refine r_iload_n C (i := 1) 1 dL_call_0 rfl rfl ?_
  refine r_tabIn (off := 165) C 166 dL_call_1 (by decide) (by decide) (by decide) (by decide) ?_
  refine r_aload_n C (i := 0) 0 dL_call_166 rfl rfl ?_
  refine r_iload_n C (i := 2) 2 dL_call_167 rfl rfl ?_
  refine r_iload_n C (i := 3) 3 dL_call_168 rfl rfl ?_
  refine Ca.one hB.2.2.2 (j := 0) (k' := 0) (rest := []) (Nat.le_refl _) (t_found_4 hst hA (hk := hk)) lk_L_tryFound w_4_26 dL_call_169 rfl ⟨by decide, by decide⟩ (Nat.le_of_ble_eq_true rfl) (fun v9 w9 hp => ?_)
  obtain ⟨rfl, hA9⟩ := hp
  exact (hB.2.2.1 0 (Nat.le_refl _)).1 _ _ _ _ _ dL_call_172 rfl rfl ⟨rfl, hA9⟩ (hA9.fst.trans hA.fst.symm)
set_option maxRecDepth 100000 in
theorem cl_found_na {l : Launch} {E : Ev} (hst : l.stackTraces = false) {α : Nat → Nat} {σ : Sg} {hs : Nat → Sg} {cnt : Nat} {ks : Nat → Sg} {kd : Nat → Nat} {w : va_W} (hA : Ar E α σ hs cnt ks kd w) {x y : Int32}(hx : ¬ vI x (sS σ)) {u3 : Int32} : CtN l E yL_call cL_call 5 (some FieldType.int) none 9 195 1 [.ref (α 0), .int (nI 8), .int x, .int y, .int u3] w (fun v9 w9 => v9 = some (.int (-9999001)) ∧ Ar E α σ hs cnt ks kd w9) := by
  have hW := hA.W
  have hwP := hW.P
  have hwA := hW.A
  refine ctn_of (by decide +kernel) (Nat.le_of_ble_eq_true rfl) (fun Ω hB => ?_)
  have C := hB.1 0 (Nat.zero_le _)
  show Ω 0 w [(0, .ref (α 0)), (1, .int (nI 8)), (2, .int x), (3, .int y), (4, .int u3)] [] 0
  refine r_iload_n C (i := 1) 1 dL_call_0 rfl rfl ?_
  refine r_tabIn (off := 165) C 166 dL_call_1 (by decide) (by decide) (by decide) (by decide) ?_
  refine r_aload_n C (i := 0) 0 dL_call_166 rfl rfl ?_
  refine r_iload_n C (i := 2) 2 dL_call_167 rfl rfl ?_
  refine r_iload_n C (i := 3) 3 dL_call_168 rfl rfl ?_
  refine Ca.one hB.2.2.2 (j := 0) (k' := 1) (rest := []) (Nat.le_refl _) (t_found_na hst hA (hx := hx)) lk_L_tryFound w_4_26 dL_call_169 rfl ⟨by decide, by decide⟩ (Nat.le_of_ble_eq_true rfl) (fun v9 w9 hp => ?_)
  obtain ⟨rfl, hA9⟩ := hp
  exact (hB.2.2.1 1 (Nat.le_refl _)).1 _ _ _ _ _ dL_call_172 rfl rfl ⟨rfl, hA9⟩ (hA9.fst.trans hA.fst.symm)
set_option maxRecDepth 100000 in
theorem cl_setting {l : Launch} {E : Ev} (hst : l.stackTraces = false) {α : Nat → Nat} {σ : Sg} {hs : Nat → Sg} {cnt : Nat} {ks : Nat → Sg} {kd : Nat → Nat} {w : va_W} (hA : Ar E α σ hs cnt ks kd w) {k : Nat}(hk : k < 2) {u2 u3 : Int32} : CtN l E yL_call cL_call 5 (some FieldType.int) none 9 195 0 [.ref (α 0), .int (nI 9), .int (nI k), .int u2, .int u3] w (fun v9 w9 => v9 = some (.int (nI (sO σ k))) ∧ Ar E α σ hs cnt ks kd w9) := by
  have hW := hA.W
  have hwP := hW.P
  have hwA := hW.A
  refine ctn_of (by decide +kernel) (Nat.le_of_ble_eq_true rfl) (fun Ω hB => ?_)
  have C := hB.1 0 (Nat.zero_le _)
  show Ω 0 w [(0, .ref (α 0)), (1, .int (nI 9)), (2, .int (nI k)), (3, .int u2), (4, .int u3)] [] 0
  refine r_iload_n C (i := 1) 1 dL_call_0 rfl rfl ?_
  refine r_tabIn (off := 172) C 173 dL_call_1 (by decide) (by decide) (by decide) (by decide) ?_
  refine r_aload_n C (i := 0) 0 dL_call_173 rfl rfl ?_
  refine r_iload_n C (i := 2) 2 dL_call_174 rfl rfl ?_
  refine Ca.one hB.2.2.2 (j := 0) (k' := 0) (rest := []) (Nat.le_refl _) (t_setting hst hA (hk := hk)) lk_L_trySetting w_4_47 dL_call_175 rfl ⟨by decide, by decide⟩ (Nat.le_of_ble_eq_true rfl) (fun v9 w9 hp => ?_)
  obtain ⟨rfl, hA9⟩ := hp
  exact (hB.2.2.1 0 (Nat.le_refl _)).1 _ _ _ _ _ dL_call_178 rfl rfl ⟨rfl, hA9⟩ (hA9.fst.trans hA.fst.symm)
set_option maxRecDepth 100000 in
theorem cl_setting_no {l : Launch} {E : Ev} (hst : l.stackTraces = false) {α : Nat → Nat} {σ : Sg} {hs : Nat → Sg} {cnt : Nat} {ks : Nat → Sg} {kd : Nat → Nat} {w : va_W} (hA : Ar E α σ hs cnt ks kd w) {x : Int32}(hx : ¬ vI x 2) {u2 u3 : Int32} : CtN l E yL_call cL_call 5 (some FieldType.int) none 9 195 1 [.ref (α 0), .int (nI 9), .int x, .int u2, .int u3] w (fun v9 w9 => v9 = some (.int (-9999002)) ∧ Ar E α σ hs cnt ks kd w9) := by
  have hW := hA.W
  have hwP := hW.P
  have hwA := hW.A
  refine ctn_of (by decide +kernel) (Nat.le_of_ble_eq_true rfl) (fun Ω hB => ?_)
  have C := hB.1 0 (Nat.zero_le _)
  show Ω 0 w [(0, .ref (α 0)), (1, .int (nI 9)), (2, .int x), (3, .int u2), (4, .int u3)] [] 0
  refine r_iload_n C (i := 1) 1 dL_call_0 rfl rfl ?_
  refine r_tabIn (off := 172) C 173 dL_call_1 (by decide) (by decide) (by decide) (by decide) ?_
  refine r_aload_n C (i := 0) 0 dL_call_173 rfl rfl ?_
  refine r_iload_n C (i := 2) 2 dL_call_174 rfl rfl ?_
  refine Ca.one hB.2.2.2 (j := 0) (k' := 1) (rest := []) (Nat.le_refl _) (t_setting_no hst hA (hx := hx)) lk_L_trySetting w_4_47 dL_call_175 rfl ⟨by decide, by decide⟩ (Nat.le_of_ble_eq_true rfl) (fun v9 w9 hp => ?_)
  obtain ⟨rfl, hA9⟩ := hp
  exact (hB.2.2.1 1 (Nat.le_refl _)).1 _ _ _ _ _ dL_call_178 rfl rfl ⟨rfl, hA9⟩ (hA9.fst.trans hA.fst.symm)
set_option maxRecDepth 100000 in
theorem cl_hire {l : Launch} {E : Ev} (hst : l.stackTraces = false) {α : Nat → Nat} {σ : Sg} {hs : Nat → Sg} {cnt : Nat} {ks : Nat → Sg} {kd : Nat → Nat} {w : va_W} (hA : Ar E α σ hs cnt ks kd w) {k : Nat}(hk : k < 10) (hq : sA σ < 10) {u2 u3 : Int32} : CtN l E yL_call cL_call 5 (some FieldType.int) none 9 195 0 [.ref (α 0), .int (nI 10), .int (nI k), .int u2, .int u3] w (fun v9 w9 => v9 = some (.int (nI (sA σ))) ∧ Ar E α (oHire σ k) (pushH hs cnt σ) (pushN cnt) ks kd w9) := by
  have hW := hA.W
  have hwP := hW.P
  have hwA := hW.A
  refine ctn_of (by decide +kernel) (Nat.le_of_ble_eq_true rfl) (fun Ω hB => ?_)
  have C := hB.1 0 (Nat.zero_le _)
  show Ω 0 w [(0, .ref (α 0)), (1, .int (nI 10)), (2, .int (nI k)), (3, .int u2), (4, .int u3)] [] 0
  refine r_iload_n C (i := 1) 1 dL_call_0 rfl rfl ?_
  refine r_tabIn (off := 178) C 179 dL_call_1 (by decide) (by decide) (by decide) (by decide) ?_
  refine r_aload_n C (i := 0) 0 dL_call_179 rfl rfl ?_
  refine r_iload_n C (i := 2) 2 dL_call_180 rfl rfl ?_
  refine Ca.one hB.2.2.2 (j := 0) (k' := 0) (rest := []) (Nat.le_refl _) (t_hire hst hA (hk := hk) (hq := hq)) lk_L_tryHire w_4_59 dL_call_181 rfl ⟨by decide, by decide⟩ (Nat.le_of_ble_eq_true rfl) (fun v9 w9 hp => ?_)
  obtain ⟨rfl, hA9⟩ := hp
  exact (hB.2.2.1 0 (Nat.le_refl _)).1 _ _ _ _ _ dL_call_184 rfl rfl ⟨rfl, hA9⟩ (hA9.fst.trans hA.fst.symm)
set_option maxRecDepth 100000 in
theorem cl_hire_full {l : Launch} {E : Ev} (hst : l.stackTraces = false) {α : Nat → Nat} {σ : Sg} {hs : Nat → Sg} {cnt : Nat} {ks : Nat → Sg} {kd : Nat → Nat} {w : va_W} (hA : Ar E α σ hs cnt ks kd w) {k : Nat}(hk : k < 10) (hx : ¬ sA σ < 10) {u2 u3 : Int32} : CtN l E yL_call cL_call 5 (some FieldType.int) none 9 195 1 [.ref (α 0), .int (nI 10), .int (nI k), .int u2, .int u3] w (fun v9 w9 => v9 = some (.int (-9999003)) ∧ Ar E α σ hs cnt ks kd w9) := by
  have hW := hA.W
  have hwP := hW.P
  have hwA := hW.A
  refine ctn_of (by decide +kernel) (Nat.le_of_ble_eq_true rfl) (fun Ω hB => ?_)
  have C := hB.1 0 (Nat.zero_le _)
  show Ω 0 w [(0, .ref (α 0)), (1, .int (nI 10)), (2, .int (nI k)), (3, .int u2), (4, .int u3)] [] 0
  refine r_iload_n C (i := 1) 1 dL_call_0 rfl rfl ?_
  refine r_tabIn (off := 178) C 179 dL_call_1 (by decide) (by decide) (by decide) (by decide) ?_
  refine r_aload_n C (i := 0) 0 dL_call_179 rfl rfl ?_
  refine r_iload_n C (i := 2) 2 dL_call_180 rfl rfl ?_
  refine Ca.one hB.2.2.2 (j := 0) (k' := 1) (rest := []) (Nat.le_refl _) (t_hire_full hst hA (hk := hk) (hx := hx)) lk_L_tryHire w_4_59 dL_call_181 rfl ⟨by decide, by decide⟩ (Nat.le_of_ble_eq_true rfl) (fun v9 w9 hp => ?_)
  obtain ⟨rfl, hA9⟩ := hp
  exact (hB.2.2.1 1 (Nat.le_refl _)).1 _ _ _ _ _ dL_call_184 rfl rfl ⟨rfl, hA9⟩ (hA9.fst.trans hA.fst.symm)
set_option maxRecDepth 100000 in
theorem cl_hire_no {l : Launch} {E : Ev} (hst : l.stackTraces = false) {α : Nat → Nat} {σ : Sg} {hs : Nat → Sg} {cnt : Nat} {ks : Nat → Sg} {kd : Nat → Nat} {w : va_W} (hA : Ar E α σ hs cnt ks kd w) {x : Int32}(hx : ¬ vI x 10) {u2 u3 : Int32} : CtN l E yL_call cL_call 5 (some FieldType.int) none 9 195 1 [.ref (α 0), .int (nI 10), .int x, .int u2, .int u3] w (fun v9 w9 => v9 = some (.int (-9999002)) ∧ Ar E α σ hs cnt ks kd w9) := by
  have hW := hA.W
  have hwP := hW.P
  have hwA := hW.A
  refine ctn_of (by decide +kernel) (Nat.le_of_ble_eq_true rfl) (fun Ω hB => ?_)
  have C := hB.1 0 (Nat.zero_le _)
  show Ω 0 w [(0, .ref (α 0)), (1, .int (nI 10)), (2, .int x), (3, .int u2), (4, .int u3)] [] 0
  refine r_iload_n C (i := 1) 1 dL_call_0 rfl rfl ?_
  refine r_tabIn (off := 178) C 179 dL_call_1 (by decide) (by decide) (by decide) (by decide) ?_
  refine r_aload_n C (i := 0) 0 dL_call_179 rfl rfl ?_
  refine r_iload_n C (i := 2) 2 dL_call_180 rfl rfl ?_
  refine Ca.one hB.2.2.2 (j := 0) (k' := 1) (rest := []) (Nat.le_refl _) (t_hire_no hst hA (hx := hx)) lk_L_tryHire w_4_59 dL_call_181 rfl ⟨by decide, by decide⟩ (Nat.le_of_ble_eq_true rfl) (fun v9 w9 hp => ?_)
  obtain ⟨rfl, hA9⟩ := hp
  exact (hB.2.2.1 1 (Nat.le_refl _)).1 _ _ _ _ _ dL_call_184 rfl rfl ⟨rfl, hA9⟩ (hA9.fst.trans hA.fst.symm)
set_option maxRecDepth 100000 in
theorem cl_part {l : Launch} {E : Ev} (hst : l.stackTraces = false) {α : Nat → Nat} {σ : Sg} {hs : Nat → Sg} {cnt : Nat} {ks : Nat → Sg} {kd : Nat → Nat} {w : va_W} (hA : Ar E α σ hs cnt ks kd w) (hq : sP σ < 6) {u1 u2 u3 : Int32} : CtN l E yL_call cL_call 5 (some FieldType.int) none 9 195 0 [.ref (α 0), .int (nI 11), .int u1, .int u2, .int u3] w (fun v9 w9 => v9 = some (.int (nI (sP σ))) ∧ Ar E α (oPart σ) (pushH hs cnt σ) (pushN cnt) ks kd w9) := by
  have hW := hA.W
  have hwP := hW.P
  have hwA := hW.A
  refine ctn_of (by decide +kernel) (Nat.le_of_ble_eq_true rfl) (fun Ω hB => ?_)
  have C := hB.1 0 (Nat.zero_le _)
  show Ω 0 w [(0, .ref (α 0)), (1, .int (nI 11)), (2, .int u1), (3, .int u2), (4, .int u3)] [] 0
  refine r_iload_n C (i := 1) 1 dL_call_0 rfl rfl ?_
  refine r_tabIn (off := 184) C 185 dL_call_1 (by decide) (by decide) (by decide) (by decide) ?_
  refine r_aload_n C (i := 0) 0 dL_call_185 rfl rfl ?_
  refine Ca.one hB.2.2.2 (j := 0) (k' := 0) (rest := []) (Nat.le_refl _) (t_part hst hA (hq := hq)) lk_L_tryPart w_4_69 dL_call_186 rfl ⟨by decide, by decide⟩ (Nat.le_of_ble_eq_true rfl) (fun v9 w9 hp => ?_)
  obtain ⟨rfl, hA9⟩ := hp
  exact (hB.2.2.1 0 (Nat.le_refl _)).1 _ _ _ _ _ dL_call_189 rfl rfl ⟨rfl, hA9⟩ (hA9.fst.trans hA.fst.symm)
set_option maxRecDepth 100000 in
theorem cl_part_full {l : Launch} {E : Ev} (hst : l.stackTraces = false) {α : Nat → Nat} {σ : Sg} {hs : Nat → Sg} {cnt : Nat} {ks : Nat → Sg} {kd : Nat → Nat} {w : va_W} (hA : Ar E α σ hs cnt ks kd w) (hx : ¬ sP σ < 6) {u1 u2 u3 : Int32} : CtN l E yL_call cL_call 5 (some FieldType.int) none 9 195 1 [.ref (α 0), .int (nI 11), .int u1, .int u2, .int u3] w (fun v9 w9 => v9 = some (.int (-9999003)) ∧ Ar E α σ hs cnt ks kd w9) := by
  have hW := hA.W
  have hwP := hW.P
  have hwA := hW.A
  refine ctn_of (by decide +kernel) (Nat.le_of_ble_eq_true rfl) (fun Ω hB => ?_)
  have C := hB.1 0 (Nat.zero_le _)
  show Ω 0 w [(0, .ref (α 0)), (1, .int (nI 11)), (2, .int u1), (3, .int u2), (4, .int u3)] [] 0
  refine r_iload_n C (i := 1) 1 dL_call_0 rfl rfl ?_
  refine r_tabIn (off := 184) C 185 dL_call_1 (by decide) (by decide) (by decide) (by decide) ?_
  refine r_aload_n C (i := 0) 0 dL_call_185 rfl rfl ?_
  refine Ca.one hB.2.2.2 (j := 0) (k' := 1) (rest := []) (Nat.le_refl _) (t_part_full hst hA (hx := hx)) lk_L_tryPart w_4_69 dL_call_186 rfl ⟨by decide, by decide⟩ (Nat.le_of_ble_eq_true rfl) (fun v9 w9 hp => ?_)
  obtain ⟨rfl, hA9⟩ := hp
  exact (hB.2.2.1 1 (Nat.le_refl _)).1 _ _ _ _ _ dL_call_189 rfl rfl ⟨rfl, hA9⟩ (hA9.fst.trans hA.fst.symm)
set_option maxRecDepth 100000 in
theorem cl_cast {l : Launch} {E : Ev} (hst : l.stackTraces = false) {α : Nat → Nat} {σ : Sg} {hs : Nat → Sg} {cnt : Nat} {ks : Nat → Sg} {kd : Nat → Nat} {w : va_W} (hA : Ar E α σ hs cnt ks kd w) {p x n : Nat}(hp : p < sP σ)(hn : n < 20)(hx : x ≤ sA σ) : CtN l E yL_call cL_call 5 (some FieldType.int) none 9 195 0 [.ref (α 0), .int (nI 12), .int (nI p), .int (mI x), .int (nI n)] w (fun v9 w9 => v9 = some (.int (mI (sR σ p n))) ∧ Ar E α (oCast σ p x n) (pushH hs cnt σ) (pushN cnt) ks kd w9) := by
  have hW := hA.W
  have hwP := hW.P
  have hwA := hW.A
  refine ctn_of (by decide +kernel) (Nat.le_of_ble_eq_true rfl) (fun Ω hB => ?_)
  have C := hB.1 0 (Nat.zero_le _)
  show Ω 0 w [(0, .ref (α 0)), (1, .int (nI 12)), (2, .int (nI p)), (3, .int (mI x)), (4, .int (nI n))] [] 0
  refine r_iload_n C (i := 1) 1 dL_call_0 rfl rfl ?_
  refine r_tabIn (off := 189) C 190 dL_call_1 (by decide) (by decide) (by decide) (by decide) ?_
  refine r_aload_n C (i := 0) 0 dL_call_190 rfl rfl ?_
  refine r_iload_n C (i := 2) 2 dL_call_191 rfl rfl ?_
  refine r_iload_n C (i := 3) 3 dL_call_192 rfl rfl ?_
  refine r_iload C (i := 4) 4 dL_call_193 rfl ?_
  refine Ca.one hB.2.2.2 (j := 0) (k' := 0) (rest := []) (Nat.le_refl _) (t_cast hst hA (hp := hp) (hn := hn) (hx := hx)) lk_L_tryCast w_4_78 dL_call_195 rfl ⟨by decide, by decide⟩ (Nat.le_of_ble_eq_true rfl) (fun v9 w9 hp => ?_)
  obtain ⟨rfl, hA9⟩ := hp
  exact (hB.2.2.1 0 (Nat.le_refl _)).1 _ _ _ _ _ dL_call_198 rfl rfl ⟨rfl, hA9⟩ (hA9.fst.trans hA.fst.symm)
set_option maxRecDepth 100000 in
theorem cl_cast_no {l : Launch} {E : Ev} (hst : l.stackTraces = false) {α : Nat → Nat} {σ : Sg} {hs : Nat → Sg} {cnt : Nat} {ks : Nat → Sg} {kd : Nat → Nat} {w : va_W} (hA : Ar E α σ hs cnt ks kd w) {x y z : Int32}(hx : ¬ (vI x (sP σ) ∧ vI z 20 ∧ (y = mI 0 ∨ vI y (sA σ)))) : CtN l E yL_call cL_call 5 (some FieldType.int) none 9 195 1 [.ref (α 0), .int (nI 12), .int x, .int y, .int z] w (fun v9 w9 => v9 = some (.int (-9999001)) ∧ Ar E α σ hs cnt ks kd w9) := by
  have hW := hA.W
  have hwP := hW.P
  have hwA := hW.A
  refine ctn_of (by decide +kernel) (Nat.le_of_ble_eq_true rfl) (fun Ω hB => ?_)
  have C := hB.1 0 (Nat.zero_le _)
  show Ω 0 w [(0, .ref (α 0)), (1, .int (nI 12)), (2, .int x), (3, .int y), (4, .int z)] [] 0
  refine r_iload_n C (i := 1) 1 dL_call_0 rfl rfl ?_
  refine r_tabIn (off := 189) C 190 dL_call_1 (by decide) (by decide) (by decide) (by decide) ?_
  refine r_aload_n C (i := 0) 0 dL_call_190 rfl rfl ?_
  refine r_iload_n C (i := 2) 2 dL_call_191 rfl rfl ?_
  refine r_iload_n C (i := 3) 3 dL_call_192 rfl rfl ?_
  refine r_iload C (i := 4) 4 dL_call_193 rfl ?_
  refine Ca.one hB.2.2.2 (j := 0) (k' := 1) (rest := []) (Nat.le_refl _) (t_cast_no hst hA (hx := hx)) lk_L_tryCast w_4_78 dL_call_195 rfl ⟨by decide, by decide⟩ (Nat.le_of_ble_eq_true rfl) (fun v9 w9 hp => ?_)
  obtain ⟨rfl, hA9⟩ := hp
  exact (hB.2.2.1 1 (Nat.le_refl _)).1 _ _ _ _ _ dL_call_198 rfl rfl ⟨rfl, hA9⟩ (hA9.fst.trans hA.fst.symm)
set_option maxRecDepth 100000 in
theorem cl_study {l : Launch} {E : Ev} (hst : l.stackTraces = false) {α : Nat → Nat} {σ : Sg} {hs : Nat → Sg} {cnt : Nat} {ks : Nat → Sg} {kd : Nat → Nat} {w : va_W} (hA : Ar E α σ hs cnt ks kd w) {p a : Nat}(hp : p < sP σ)(ha : a < sA σ)(hq : sC σ p < 4) (hr : rk σ p a = 0) {u3 : Int32} : CtN l E yL_call cL_call 5 (some FieldType.int) none 9 195 0 [.ref (α 0), .int (nI 13), .int (nI p), .int (nI a), .int u3] w (fun v9 w9 => v9 = some (.int (nI (sC σ p + 1))) ∧ Ar E α (oStudy σ p a) (pushH hs cnt σ) (pushN cnt) ks kd w9) := by
  have hW := hA.W
  have hwP := hW.P
  have hwA := hW.A
  refine ctn_of (by decide +kernel) (Nat.le_of_ble_eq_true rfl) (fun Ω hB => ?_)
  have C := hB.1 0 (Nat.zero_le _)
  show Ω 0 w [(0, .ref (α 0)), (1, .int (nI 13)), (2, .int (nI p)), (3, .int (nI a)), (4, .int u3)] [] 0
  refine r_iload_n C (i := 1) 1 dL_call_0 rfl rfl ?_
  refine r_tabIn (off := 198) C 199 dL_call_1 (by decide) (by decide) (by decide) (by decide) ?_
  refine r_aload_n C (i := 0) 0 dL_call_199 rfl rfl ?_
  refine r_iload_n C (i := 2) 2 dL_call_200 rfl rfl ?_
  refine r_iload_n C (i := 3) 3 dL_call_201 rfl rfl ?_
  refine Ca.one hB.2.2.2 (j := 0) (k' := 0) (rest := []) (Nat.le_refl _) (t_study hst hA (hp := hp) (ha := ha) (hq := hq) (hr := hr)) lk_L_tryStudy w_4_87 dL_call_202 rfl ⟨by decide, by decide⟩ (Nat.le_of_ble_eq_true rfl) (fun v9 w9 hp => ?_)
  obtain ⟨rfl, hA9⟩ := hp
  exact (hB.2.2.1 0 (Nat.le_refl _)).1 _ _ _ _ _ dL_call_205 rfl rfl ⟨rfl, hA9⟩ (hA9.fst.trans hA.fst.symm)
set_option maxRecDepth 100000 in
theorem cl_study_nb {l : Launch} {E : Ev} (hst : l.stackTraces = false) {α : Nat → Nat} {σ : Sg} {hs : Nat → Sg} {cnt : Nat} {ks : Nat → Sg} {kd : Nat → Nat} {w : va_W} (hA : Ar E α σ hs cnt ks kd w) {p : Nat}{x : Int32}(hp : p < sP σ)(hx : ¬ vI x (sA σ)) {u3 : Int32} : CtN l E yL_call cL_call 5 (some FieldType.int) none 9 195 1 [.ref (α 0), .int (nI 13), .int (nI p), .int x, .int u3] w (fun v9 w9 => v9 = some (.int (-9999001)) ∧ Ar E α σ hs cnt ks kd w9) := by
  have hW := hA.W
  have hwP := hW.P
  have hwA := hW.A
  refine ctn_of (by decide +kernel) (Nat.le_of_ble_eq_true rfl) (fun Ω hB => ?_)
  have C := hB.1 0 (Nat.zero_le _)
  show Ω 0 w [(0, .ref (α 0)), (1, .int (nI 13)), (2, .int (nI p)), (3, .int x), (4, .int u3)] [] 0
  refine r_iload_n C (i := 1) 1 dL_call_0 rfl rfl ?_
  refine r_tabIn (off := 198) C 199 dL_call_1 (by decide) (by decide) (by decide) (by decide) ?_
  refine r_aload_n C (i := 0) 0 dL_call_199 rfl rfl ?_
  refine r_iload_n C (i := 2) 2 dL_call_200 rfl rfl ?_
  refine r_iload_n C (i := 3) 3 dL_call_201 rfl rfl ?_
  refine Ca.one hB.2.2.2 (j := 0) (k' := 1) (rest := []) (Nat.le_refl _) (t_study_nb hst hA (hp := hp) (hx := hx)) lk_L_tryStudy w_4_87 dL_call_202 rfl ⟨by decide, by decide⟩ (Nat.le_of_ble_eq_true rfl) (fun v9 w9 hp => ?_)
  obtain ⟨rfl, hA9⟩ := hp
  exact (hB.2.2.1 1 (Nat.le_refl _)).1 _ _ _ _ _ dL_call_205 rfl rfl ⟨rfl, hA9⟩ (hA9.fst.trans hA.fst.symm)
set_option maxRecDepth 100000 in
theorem cl_study_nc {l : Launch} {E : Ev} (hst : l.stackTraces = false) {α : Nat → Nat} {σ : Sg} {hs : Nat → Sg} {cnt : Nat} {ks : Nat → Sg} {kd : Nat → Nat} {w : va_W} (hA : Ar E α σ hs cnt ks kd w) {p a : Nat}(hp : p < sP σ)(ha : a < sA σ)(hx : ¬ (sC σ p < 4 ∧ rk σ p a = 0)) {u3 : Int32} : CtN l E yL_call cL_call 5 (some FieldType.int) none 9 195 1 [.ref (α 0), .int (nI 13), .int (nI p), .int (nI a), .int u3] w (fun v9 w9 => v9 = some (.int (-9999003)) ∧ Ar E α σ hs cnt ks kd w9) := by
  have hW := hA.W
  have hwP := hW.P
  have hwA := hW.A
  refine ctn_of (by decide +kernel) (Nat.le_of_ble_eq_true rfl) (fun Ω hB => ?_)
  have C := hB.1 0 (Nat.zero_le _)
  show Ω 0 w [(0, .ref (α 0)), (1, .int (nI 13)), (2, .int (nI p)), (3, .int (nI a)), (4, .int u3)] [] 0
  refine r_iload_n C (i := 1) 1 dL_call_0 rfl rfl ?_
  refine r_tabIn (off := 198) C 199 dL_call_1 (by decide) (by decide) (by decide) (by decide) ?_
  refine r_aload_n C (i := 0) 0 dL_call_199 rfl rfl ?_
  refine r_iload_n C (i := 2) 2 dL_call_200 rfl rfl ?_
  refine r_iload_n C (i := 3) 3 dL_call_201 rfl rfl ?_
  refine Ca.one hB.2.2.2 (j := 0) (k' := 1) (rest := []) (Nat.le_refl _) (t_study_nc hst hA (hp := hp) (ha := ha) (hx := hx)) lk_L_tryStudy w_4_87 dL_call_202 rfl ⟨by decide, by decide⟩ (Nat.le_of_ble_eq_true rfl) (fun v9 w9 hp => ?_)
  obtain ⟨rfl, hA9⟩ := hp
  exact (hB.2.2.1 1 (Nat.le_refl _)).1 _ _ _ _ _ dL_call_205 rfl rfl ⟨rfl, hA9⟩ (hA9.fst.trans hA.fst.symm)
set_option maxRecDepth 100000 in
theorem cl_release {l : Launch} {E : Ev} (hst : l.stackTraces = false) {α : Nat → Nat} {σ : Sg} {hs : Nat → Sg} {cnt : Nat} {ks : Nat → Sg} {kd : Nat → Nat} {w : va_W} (hA : Ar E α σ hs cnt ks kd w) {p a : Nat}(hp : p < sP σ)(ha : a < sA σ)(hq : rk σ p a ≠ 0) {u3 : Int32} : CtN l E yL_call cL_call 5 (some FieldType.int) none 9 195 0 [.ref (α 0), .int (nI 14), .int (nI p), .int (nI a), .int u3] w (fun v9 w9 => v9 = some (.int (nI (rk σ p a - 1))) ∧ Ar E α (oRel σ p (rk σ p a - 1)) (pushH hs cnt σ) (pushN cnt) ks kd w9) := by
  have hW := hA.W
  have hwP := hW.P
  have hwA := hW.A
  refine ctn_of (by decide +kernel) (Nat.le_of_ble_eq_true rfl) (fun Ω hB => ?_)
  have C := hB.1 0 (Nat.zero_le _)
  show Ω 0 w [(0, .ref (α 0)), (1, .int (nI 14)), (2, .int (nI p)), (3, .int (nI a)), (4, .int u3)] [] 0
  refine r_iload_n C (i := 1) 1 dL_call_0 rfl rfl ?_
  refine r_tabIn (off := 205) C 206 dL_call_1 (by decide) (by decide) (by decide) (by decide) ?_
  refine r_aload_n C (i := 0) 0 dL_call_206 rfl rfl ?_
  refine r_iload_n C (i := 2) 2 dL_call_207 rfl rfl ?_
  refine r_iload_n C (i := 3) 3 dL_call_208 rfl rfl ?_
  refine Ca.one hB.2.2.2 (j := 0) (k' := 0) (rest := []) (Nat.le_refl _) (t_release hst hA (hp := hp) (ha := ha) (hq := hq)) lk_L_tryRelease w_4_97 dL_call_209 rfl ⟨by decide, by decide⟩ (Nat.le_of_ble_eq_true rfl) (fun v9 w9 hp => ?_)
  obtain ⟨rfl, hA9⟩ := hp
  exact (hB.2.2.1 0 (Nat.le_refl _)).1 _ _ _ _ _ dL_call_212 rfl rfl ⟨rfl, hA9⟩ (hA9.fst.trans hA.fst.symm)
set_option maxRecDepth 100000 in
theorem cl_release_na {l : Launch} {E : Ev} (hst : l.stackTraces = false) {α : Nat → Nat} {σ : Sg} {hs : Nat → Sg} {cnt : Nat} {ks : Nat → Sg} {kd : Nat → Nat} {w : va_W} (hA : Ar E α σ hs cnt ks kd w) {x y : Int32}(hx : ¬ vI x (sP σ)) {u3 : Int32} : CtN l E yL_call cL_call 5 (some FieldType.int) none 9 195 1 [.ref (α 0), .int (nI 14), .int x, .int y, .int u3] w (fun v9 w9 => v9 = some (.int (-9999001)) ∧ Ar E α σ hs cnt ks kd w9) := by
  have hW := hA.W
  have hwP := hW.P
  have hwA := hW.A
  refine ctn_of (by decide +kernel) (Nat.le_of_ble_eq_true rfl) (fun Ω hB => ?_)
  have C := hB.1 0 (Nat.zero_le _)
  show Ω 0 w [(0, .ref (α 0)), (1, .int (nI 14)), (2, .int x), (3, .int y), (4, .int u3)] [] 0
  refine r_iload_n C (i := 1) 1 dL_call_0 rfl rfl ?_
  refine r_tabIn (off := 205) C 206 dL_call_1 (by decide) (by decide) (by decide) (by decide) ?_
  refine r_aload_n C (i := 0) 0 dL_call_206 rfl rfl ?_
  refine r_iload_n C (i := 2) 2 dL_call_207 rfl rfl ?_
  refine r_iload_n C (i := 3) 3 dL_call_208 rfl rfl ?_
  refine Ca.one hB.2.2.2 (j := 0) (k' := 1) (rest := []) (Nat.le_refl _) (t_release_na hst hA (hx := hx)) lk_L_tryRelease w_4_97 dL_call_209 rfl ⟨by decide, by decide⟩ (Nat.le_of_ble_eq_true rfl) (fun v9 w9 hp => ?_)
  obtain ⟨rfl, hA9⟩ := hp
  exact (hB.2.2.1 1 (Nat.le_refl _)).1 _ _ _ _ _ dL_call_212 rfl rfl ⟨rfl, hA9⟩ (hA9.fst.trans hA.fst.symm)
set_option maxRecDepth 100000 in
theorem cl_release_nc {l : Launch} {E : Ev} (hst : l.stackTraces = false) {α : Nat → Nat} {σ : Sg} {hs : Nat → Sg} {cnt : Nat} {ks : Nat → Sg} {kd : Nat → Nat} {w : va_W} (hA : Ar E α σ hs cnt ks kd w) {p a : Nat}(hp : p < sP σ)(ha : a < sA σ)(hx : rk σ p a = 0) {u3 : Int32} : CtN l E yL_call cL_call 5 (some FieldType.int) none 9 195 1 [.ref (α 0), .int (nI 14), .int (nI p), .int (nI a), .int u3] w (fun v9 w9 => v9 = some (.int (-9999003)) ∧ Ar E α σ hs cnt ks kd w9) := by
  have hW := hA.W
  have hwP := hW.P
  have hwA := hW.A
  refine ctn_of (by decide +kernel) (Nat.le_of_ble_eq_true rfl) (fun Ω hB => ?_)
  have C := hB.1 0 (Nat.zero_le _)
  show Ω 0 w [(0, .ref (α 0)), (1, .int (nI 14)), (2, .int (nI p)), (3, .int (nI a)), (4, .int u3)] [] 0
  refine r_iload_n C (i := 1) 1 dL_call_0 rfl rfl ?_
  refine r_tabIn (off := 205) C 206 dL_call_1 (by decide) (by decide) (by decide) (by decide) ?_
  refine r_aload_n C (i := 0) 0 dL_call_206 rfl rfl ?_
  refine r_iload_n C (i := 2) 2 dL_call_207 rfl rfl ?_
  refine r_iload_n C (i := 3) 3 dL_call_208 rfl rfl ?_
  refine Ca.one hB.2.2.2 (j := 0) (k' := 1) (rest := []) (Nat.le_refl _) (t_release_nc hst hA (hp := hp) (ha := ha) (hx := hx)) lk_L_tryRelease w_4_97 dL_call_209 rfl ⟨by decide, by decide⟩ (Nat.le_of_ble_eq_true rfl) (fun v9 w9 hp => ?_)
  obtain ⟨rfl, hA9⟩ := hp
  exact (hB.2.2.1 1 (Nat.le_refl _)).1 _ _ _ _ _ dL_call_212 rfl rfl ⟨rfl, hA9⟩ (hA9.fst.trans hA.fst.symm)
set_option maxRecDepth 100000 in
theorem cl_lose {l : Launch} {E : Ev} (hst : l.stackTraces = false) {α : Nat → Nat} {σ : Sg} {hs : Nat → Sg} {cnt : Nat} {ks : Nat → Sg} {kd : Nat → Nat} {w : va_W} (hA : Ar E α σ hs cnt ks kd w) {k : Nat}(hk : k < sS σ) {u2 u3 : Int32} : CtN l E yL_call cL_call 5 (some FieldType.int) none 9 195 0 [.ref (α 0), .int (nI 15), .int (nI k), .int u2, .int u3] w (fun v9 w9 => v9 = some (.int (nI (sS σ - 1))) ∧ Ar E α (oLose σ k) (pushH hs cnt σ) (pushN cnt) ks kd w9) := by
  have hW := hA.W
  have hwP := hW.P
  have hwA := hW.A
  refine ctn_of (by decide +kernel) (Nat.le_of_ble_eq_true rfl) (fun Ω hB => ?_)
  have C := hB.1 0 (Nat.zero_le _)
  show Ω 0 w [(0, .ref (α 0)), (1, .int (nI 15)), (2, .int (nI k)), (3, .int u2), (4, .int u3)] [] 0
  refine r_iload_n C (i := 1) 1 dL_call_0 rfl rfl ?_
  refine r_tabIn (off := 212) C 213 dL_call_1 (by decide) (by decide) (by decide) (by decide) ?_
  refine r_aload_n C (i := 0) 0 dL_call_213 rfl rfl ?_
  refine r_iload_n C (i := 2) 2 dL_call_214 rfl rfl ?_
  refine Ca.one hB.2.2.2 (j := 0) (k' := 0) (rest := []) (Nat.le_refl _) (t_lose hst hA (hk := hk)) lk_L_tryLose w_4_110 dL_call_215 rfl ⟨by decide, by decide⟩ (Nat.le_of_ble_eq_true rfl) (fun v9 w9 hp => ?_)
  obtain ⟨rfl, hA9⟩ := hp
  exact (hB.2.2.1 0 (Nat.le_refl _)).1 _ _ _ _ _ dL_call_218 rfl rfl ⟨rfl, hA9⟩ (hA9.fst.trans hA.fst.symm)
set_option maxRecDepth 100000 in
theorem cl_lose_no {l : Launch} {E : Ev} (hst : l.stackTraces = false) {α : Nat → Nat} {σ : Sg} {hs : Nat → Sg} {cnt : Nat} {ks : Nat → Sg} {kd : Nat → Nat} {w : va_W} (hA : Ar E α σ hs cnt ks kd w) {x : Int32}(hx : ¬ vI x (sS σ)) {u2 u3 : Int32} : CtN l E yL_call cL_call 5 (some FieldType.int) none 9 195 1 [.ref (α 0), .int (nI 15), .int x, .int u2, .int u3] w (fun v9 w9 => v9 = some (.int (-9999001)) ∧ Ar E α σ hs cnt ks kd w9) := by
  have hW := hA.W
  have hwP := hW.P
  have hwA := hW.A
  refine ctn_of (by decide +kernel) (Nat.le_of_ble_eq_true rfl) (fun Ω hB => ?_)
  have C := hB.1 0 (Nat.zero_le _)
  show Ω 0 w [(0, .ref (α 0)), (1, .int (nI 15)), (2, .int x), (3, .int u2), (4, .int u3)] [] 0
  refine r_iload_n C (i := 1) 1 dL_call_0 rfl rfl ?_
  refine r_tabIn (off := 212) C 213 dL_call_1 (by decide) (by decide) (by decide) (by decide) ?_
  refine r_aload_n C (i := 0) 0 dL_call_213 rfl rfl ?_
  refine r_iload_n C (i := 2) 2 dL_call_214 rfl rfl ?_
  refine Ca.one hB.2.2.2 (j := 0) (k' := 1) (rest := []) (Nat.le_refl _) (t_lose_no hst hA (hx := hx)) lk_L_tryLose w_4_110 dL_call_215 rfl ⟨by decide, by decide⟩ (Nat.le_of_ble_eq_true rfl) (fun v9 w9 hp => ?_)
  obtain ⟨rfl, hA9⟩ := hp
  exact (hB.2.2.1 1 (Nat.le_refl _)).1 _ _ _ _ _ dL_call_218 rfl rfl ⟨rfl, hA9⟩ (hA9.fst.trans hA.fst.symm)
set_option maxRecDepth 100000 in
theorem cl_lay_0 {l : Launch} {E : Ev} (hst : l.stackTraces = false) {α : Nat → Nat} {σ : Sg} {hs : Nat → Sg} {cnt : Nat} {ks : Nat → Sg} {kd : Nat → Nat} {w : va_W} (hA : Ar E α σ hs cnt ks kd w) {k : Nat}(hk : k < 100) {u3 : Int32} : CtN l E yL_call cL_call 5 (some FieldType.int) none 9 195 0 [.ref (α 0), .int (nI 16), .int (nI 0), .int (nI k), .int u3] w (fun v9 w9 => v9 = some (.int (nI (sO σ 0))) ∧ Ar E α (oSet σ 0 k) (pushH hs cnt σ) (pushN cnt) ks kd w9) := by
  have hW := hA.W
  have hwP := hW.P
  have hwA := hW.A
  refine ctn_of (by decide +kernel) (Nat.le_of_ble_eq_true rfl) (fun Ω hB => ?_)
  have C := hB.1 0 (Nat.zero_le _)
  show Ω 0 w [(0, .ref (α 0)), (1, .int (nI 16)), (2, .int (nI 0)), (3, .int (nI k)), (4, .int u3)] [] 0
  refine r_iload_n C (i := 1) 1 dL_call_0 rfl rfl ?_
  refine r_tabIn (off := 218) C 219 dL_call_1 (by decide) (by decide) (by decide) (by decide) ?_
  refine r_aload_n C (i := 0) 0 dL_call_219 rfl rfl ?_
  refine r_iload_n C (i := 2) 2 dL_call_220 rfl rfl ?_
  refine r_iload_n C (i := 3) 3 dL_call_221 rfl rfl ?_
  refine Ca.one hB.2.2.2 (j := 0) (k' := 0) (rest := []) (Nat.le_refl _) (t_lay_0 hst hA (hk := hk)) lk_L_tryLay w_4_122 dL_call_222 rfl ⟨by decide, by decide⟩ (Nat.le_of_ble_eq_true rfl) (fun v9 w9 hp => ?_)
  obtain ⟨rfl, hA9⟩ := hp
  exact (hB.2.2.1 0 (Nat.le_refl _)).1 _ _ _ _ _ dL_call_225 rfl rfl ⟨rfl, hA9⟩ (hA9.fst.trans hA.fst.symm)
set_option maxRecDepth 100000 in
theorem cl_lay_nb0 {l : Launch} {E : Ev} (hst : l.stackTraces = false) {α : Nat → Nat} {σ : Sg} {hs : Nat → Sg} {cnt : Nat} {ks : Nat → Sg} {kd : Nat → Nat} {w : va_W} (hA : Ar E α σ hs cnt ks kd w) {x : Int32}(hx : ¬ vI x 100) {u3 : Int32} : CtN l E yL_call cL_call 5 (some FieldType.int) none 9 195 1 [.ref (α 0), .int (nI 16), .int (nI 0), .int x, .int u3] w (fun v9 w9 => v9 = some (.int (-9999002)) ∧ Ar E α σ hs cnt ks kd w9) := by
  have hW := hA.W
  have hwP := hW.P
  have hwA := hW.A
  refine ctn_of (by decide +kernel) (Nat.le_of_ble_eq_true rfl) (fun Ω hB => ?_)
  have C := hB.1 0 (Nat.zero_le _)
  show Ω 0 w [(0, .ref (α 0)), (1, .int (nI 16)), (2, .int (nI 0)), (3, .int x), (4, .int u3)] [] 0
  refine r_iload_n C (i := 1) 1 dL_call_0 rfl rfl ?_
  refine r_tabIn (off := 218) C 219 dL_call_1 (by decide) (by decide) (by decide) (by decide) ?_
  refine r_aload_n C (i := 0) 0 dL_call_219 rfl rfl ?_
  refine r_iload_n C (i := 2) 2 dL_call_220 rfl rfl ?_
  refine r_iload_n C (i := 3) 3 dL_call_221 rfl rfl ?_
  refine Ca.one hB.2.2.2 (j := 0) (k' := 1) (rest := []) (Nat.le_refl _) (t_lay_nb0 hst hA (hx := hx)) lk_L_tryLay w_4_122 dL_call_222 rfl ⟨by decide, by decide⟩ (Nat.le_of_ble_eq_true rfl) (fun v9 w9 hp => ?_)
  obtain ⟨rfl, hA9⟩ := hp
  exact (hB.2.2.1 1 (Nat.le_refl _)).1 _ _ _ _ _ dL_call_225 rfl rfl ⟨rfl, hA9⟩ (hA9.fst.trans hA.fst.symm)
set_option maxRecDepth 100000 in
theorem cl_lay_1 {l : Launch} {E : Ev} (hst : l.stackTraces = false) {α : Nat → Nat} {σ : Sg} {hs : Nat → Sg} {cnt : Nat} {ks : Nat → Sg} {kd : Nat → Nat} {w : va_W} (hA : Ar E α σ hs cnt ks kd w) {k : Nat}(hk : k < 10) {u3 : Int32} : CtN l E yL_call cL_call 5 (some FieldType.int) none 9 195 0 [.ref (α 0), .int (nI 16), .int (nI 1), .int (nI k), .int u3] w (fun v9 w9 => v9 = some (.int (nI (sO σ 1))) ∧ Ar E α (oSet σ 1 k) (pushH hs cnt σ) (pushN cnt) ks kd w9) := by
  have hW := hA.W
  have hwP := hW.P
  have hwA := hW.A
  refine ctn_of (by decide +kernel) (Nat.le_of_ble_eq_true rfl) (fun Ω hB => ?_)
  have C := hB.1 0 (Nat.zero_le _)
  show Ω 0 w [(0, .ref (α 0)), (1, .int (nI 16)), (2, .int (nI 1)), (3, .int (nI k)), (4, .int u3)] [] 0
  refine r_iload_n C (i := 1) 1 dL_call_0 rfl rfl ?_
  refine r_tabIn (off := 218) C 219 dL_call_1 (by decide) (by decide) (by decide) (by decide) ?_
  refine r_aload_n C (i := 0) 0 dL_call_219 rfl rfl ?_
  refine r_iload_n C (i := 2) 2 dL_call_220 rfl rfl ?_
  refine r_iload_n C (i := 3) 3 dL_call_221 rfl rfl ?_
  refine Ca.one hB.2.2.2 (j := 0) (k' := 0) (rest := []) (Nat.le_refl _) (t_lay_1 hst hA (hk := hk)) lk_L_tryLay w_4_122 dL_call_222 rfl ⟨by decide, by decide⟩ (Nat.le_of_ble_eq_true rfl) (fun v9 w9 hp => ?_)
  obtain ⟨rfl, hA9⟩ := hp
  exact (hB.2.2.1 0 (Nat.le_refl _)).1 _ _ _ _ _ dL_call_225 rfl rfl ⟨rfl, hA9⟩ (hA9.fst.trans hA.fst.symm)
set_option maxRecDepth 100000 in
theorem cl_lay_nb1 {l : Launch} {E : Ev} (hst : l.stackTraces = false) {α : Nat → Nat} {σ : Sg} {hs : Nat → Sg} {cnt : Nat} {ks : Nat → Sg} {kd : Nat → Nat} {w : va_W} (hA : Ar E α σ hs cnt ks kd w) {x : Int32}(hx : ¬ vI x 10) {u3 : Int32} : CtN l E yL_call cL_call 5 (some FieldType.int) none 9 195 1 [.ref (α 0), .int (nI 16), .int (nI 1), .int x, .int u3] w (fun v9 w9 => v9 = some (.int (-9999002)) ∧ Ar E α σ hs cnt ks kd w9) := by
  have hW := hA.W
  have hwP := hW.P
  have hwA := hW.A
  refine ctn_of (by decide +kernel) (Nat.le_of_ble_eq_true rfl) (fun Ω hB => ?_)
  have C := hB.1 0 (Nat.zero_le _)
  show Ω 0 w [(0, .ref (α 0)), (1, .int (nI 16)), (2, .int (nI 1)), (3, .int x), (4, .int u3)] [] 0
  refine r_iload_n C (i := 1) 1 dL_call_0 rfl rfl ?_
  refine r_tabIn (off := 218) C 219 dL_call_1 (by decide) (by decide) (by decide) (by decide) ?_
  refine r_aload_n C (i := 0) 0 dL_call_219 rfl rfl ?_
  refine r_iload_n C (i := 2) 2 dL_call_220 rfl rfl ?_
  refine r_iload_n C (i := 3) 3 dL_call_221 rfl rfl ?_
  refine Ca.one hB.2.2.2 (j := 0) (k' := 1) (rest := []) (Nat.le_refl _) (t_lay_nb1 hst hA (hx := hx)) lk_L_tryLay w_4_122 dL_call_222 rfl ⟨by decide, by decide⟩ (Nat.le_of_ble_eq_true rfl) (fun v9 w9 hp => ?_)
  obtain ⟨rfl, hA9⟩ := hp
  exact (hB.2.2.1 1 (Nat.le_refl _)).1 _ _ _ _ _ dL_call_225 rfl rfl ⟨rfl, hA9⟩ (hA9.fst.trans hA.fst.symm)
set_option maxRecDepth 100000 in
theorem cl_lay_na {l : Launch} {E : Ev} (hst : l.stackTraces = false) {α : Nat → Nat} {σ : Sg} {hs : Nat → Sg} {cnt : Nat} {ks : Nat → Sg} {kd : Nat → Nat} {w : va_W} (hA : Ar E α σ hs cnt ks kd w) {x y : Int32}(hx : ¬ vI x 2) {u3 : Int32} : CtN l E yL_call cL_call 5 (some FieldType.int) none 9 195 1 [.ref (α 0), .int (nI 16), .int x, .int y, .int u3] w (fun v9 w9 => v9 = some (.int (-9999002)) ∧ Ar E α σ hs cnt ks kd w9) := by
  have hW := hA.W
  have hwP := hW.P
  have hwA := hW.A
  refine ctn_of (by decide +kernel) (Nat.le_of_ble_eq_true rfl) (fun Ω hB => ?_)
  have C := hB.1 0 (Nat.zero_le _)
  show Ω 0 w [(0, .ref (α 0)), (1, .int (nI 16)), (2, .int x), (3, .int y), (4, .int u3)] [] 0
  refine r_iload_n C (i := 1) 1 dL_call_0 rfl rfl ?_
  refine r_tabIn (off := 218) C 219 dL_call_1 (by decide) (by decide) (by decide) (by decide) ?_
  refine r_aload_n C (i := 0) 0 dL_call_219 rfl rfl ?_
  refine r_iload_n C (i := 2) 2 dL_call_220 rfl rfl ?_
  refine r_iload_n C (i := 3) 3 dL_call_221 rfl rfl ?_
  refine Ca.one hB.2.2.2 (j := 0) (k' := 1) (rest := []) (Nat.le_refl _) (t_lay_na hst hA (hx := hx)) lk_L_tryLay w_4_122 dL_call_222 rfl ⟨by decide, by decide⟩ (Nat.le_of_ble_eq_true rfl) (fun v9 w9 hp => ?_)
  obtain ⟨rfl, hA9⟩ := hp
  exact (hB.2.2.1 1 (Nat.le_refl _)).1 _ _ _ _ _ dL_call_225 rfl rfl ⟨rfl, hA9⟩ (hA9.fst.trans hA.fst.symm)
set_option maxRecDepth 100000 in
theorem cl_undo {l : Launch} {E : Ev} (hst : l.stackTraces = false) {α : Nat → Nat} {σ : Sg} {hs : Nat → Sg} {cnt : Nat} {ks : Nat → Sg} {kd : Nat → Nat} {w : va_W} (hA : Ar E α σ hs cnt ks kd w) (hq : cnt ≠ 0) {u1 u2 u3 : Int32} : CtN l E yL_call cL_call 5 (some FieldType.int) none 9 195 0 [.ref (α 0), .int (nI 17), .int u1, .int u2, .int u3] w (fun v9 w9 => v9 = some (.int (nI (cnt - 1))) ∧ Ar E α (hs (cnt - 1)) hs (cnt - 1) ks kd w9) := by
  have hW := hA.W
  have hwP := hW.P
  have hwA := hW.A
  refine ctn_of (by decide +kernel) (Nat.le_of_ble_eq_true rfl) (fun Ω hB => ?_)
  have C := hB.1 0 (Nat.zero_le _)
  show Ω 0 w [(0, .ref (α 0)), (1, .int (nI 17)), (2, .int u1), (3, .int u2), (4, .int u3)] [] 0
  refine r_iload_n C (i := 1) 1 dL_call_0 rfl rfl ?_
  refine r_tabIn (off := 225) C 226 dL_call_1 (by decide) (by decide) (by decide) (by decide) ?_
  refine r_aload_n C (i := 0) 0 dL_call_226 rfl rfl ?_
  refine Ca.one hB.2.2.2 (j := 0) (k' := 0) (rest := []) (Nat.le_refl _) (t_undo hst hA (hq := hq)) lk_L_tryUndo w_4_134 dL_call_227 rfl ⟨by decide, by decide⟩ (Nat.le_of_ble_eq_true rfl) (fun v9 w9 hp => ?_)
  obtain ⟨rfl, hA9⟩ := hp
  exact (hB.2.2.1 0 (Nat.le_refl _)).1 _ _ _ _ _ dL_call_230 rfl rfl ⟨rfl, hA9⟩ (hA9.fst.trans hA.fst.symm)
set_option maxRecDepth 100000 in
theorem cl_undo_no {l : Launch} {E : Ev} (hst : l.stackTraces = false) {α : Nat → Nat} {σ : Sg} {hs : Nat → Sg} {cnt : Nat} {ks : Nat → Sg} {kd : Nat → Nat} {w : va_W} (hA : Ar E α σ hs cnt ks kd w) (hx : cnt = 0) {u1 u2 u3 : Int32} : CtN l E yL_call cL_call 5 (some FieldType.int) none 9 195 1 [.ref (α 0), .int (nI 17), .int u1, .int u2, .int u3] w (fun v9 w9 => v9 = some (.int (-9999003)) ∧ Ar E α σ hs cnt ks kd w9) := by
  have hW := hA.W
  have hwP := hW.P
  have hwA := hW.A
  refine ctn_of (by decide +kernel) (Nat.le_of_ble_eq_true rfl) (fun Ω hB => ?_)
  have C := hB.1 0 (Nat.zero_le _)
  show Ω 0 w [(0, .ref (α 0)), (1, .int (nI 17)), (2, .int u1), (3, .int u2), (4, .int u3)] [] 0
  refine r_iload_n C (i := 1) 1 dL_call_0 rfl rfl ?_
  refine r_tabIn (off := 225) C 226 dL_call_1 (by decide) (by decide) (by decide) (by decide) ?_
  refine r_aload_n C (i := 0) 0 dL_call_226 rfl rfl ?_
  refine Ca.one hB.2.2.2 (j := 0) (k' := 1) (rest := []) (Nat.le_refl _) (t_undo_no hst hA (hx := hx)) lk_L_tryUndo w_4_134 dL_call_227 rfl ⟨by decide, by decide⟩ (Nat.le_of_ble_eq_true rfl) (fun v9 w9 hp => ?_)
  obtain ⟨rfl, hA9⟩ := hp
  exact (hB.2.2.1 1 (Nat.le_refl _)).1 _ _ _ _ _ dL_call_230 rfl rfl ⟨rfl, hA9⟩ (hA9.fst.trans hA.fst.symm)
set_option maxRecDepth 100000 in
theorem cl_find {l : Launch} {E : Ev} (hst : l.stackTraces = false) {α : Nat → Nat} {σ : Sg} {hs : Nat → Sg} {cnt : Nat} {ks : Nat → Sg} {kd : Nat → Nat} {w : va_W} (hA : Ar E α σ hs cnt ks kd w) {p a k : Nat}(hp : p < sP σ)(ha : a < sA σ)(hk : k < 2147483648) : CtN l E yL_call cL_call 5 (some FieldType.int) none 9 195 0 [.ref (α 0), .int (nI 18), .int (nI p), .int (nI a), .int (nI k)] w (fun v9 w9 => v9 = some (.int (mI (fnd σ p a k))) ∧ Ar E α σ hs cnt ks kd w9) := by
  have hW := hA.W
  have hwP := hW.P
  have hwA := hW.A
  refine ctn_of (by decide +kernel) (Nat.le_of_ble_eq_true rfl) (fun Ω hB => ?_)
  have C := hB.1 0 (Nat.zero_le _)
  show Ω 0 w [(0, .ref (α 0)), (1, .int (nI 18)), (2, .int (nI p)), (3, .int (nI a)), (4, .int (nI k))] [] 0
  refine r_iload_n C (i := 1) 1 dL_call_0 rfl rfl ?_
  refine r_tabIn (off := 230) C 231 dL_call_1 (by decide) (by decide) (by decide) (by decide) ?_
  refine r_aload_n C (i := 0) 0 dL_call_231 rfl rfl ?_
  refine r_iload_n C (i := 2) 2 dL_call_232 rfl rfl ?_
  refine r_iload_n C (i := 3) 3 dL_call_233 rfl rfl ?_
  refine r_iload C (i := 4) 4 dL_call_234 rfl ?_
  refine Ca.one hB.2.2.2 (j := 0) (k' := 0) (rest := []) (Nat.le_refl _) (t_find hst hA (hp := hp) (ha := ha) (hk := hk)) lk_L_tryFind w_4_154 dL_call_236 rfl ⟨by decide, by decide⟩ (Nat.le_of_ble_eq_true rfl) (fun v9 w9 hp => ?_)
  obtain ⟨rfl, hA9⟩ := hp
  exact (hB.2.2.1 0 (Nat.le_refl _)).1 _ _ _ _ _ dL_call_239 rfl rfl ⟨rfl, hA9⟩ (hA9.fst.trans hA.fst.symm)
set_option maxRecDepth 100000 in
theorem cl_find_nb {l : Launch} {E : Ev} (hst : l.stackTraces = false) {α : Nat → Nat} {σ : Sg} {hs : Nat → Sg} {cnt : Nat} {ks : Nat → Sg} {kd : Nat → Nat} {w : va_W} (hA : Ar E α σ hs cnt ks kd w) {p : Nat}{x y : Int32}(hp : p < sP σ)(hx : ¬ vI x (sA σ)) : CtN l E yL_call cL_call 5 (some FieldType.int) none 9 195 1 [.ref (α 0), .int (nI 18), .int (nI p), .int x, .int y] w (fun v9 w9 => v9 = some (.int (-9999001)) ∧ Ar E α σ hs cnt ks kd w9) := by
  have hW := hA.W
  have hwP := hW.P
  have hwA := hW.A
  refine ctn_of (by decide +kernel) (Nat.le_of_ble_eq_true rfl) (fun Ω hB => ?_)
  have C := hB.1 0 (Nat.zero_le _)
  show Ω 0 w [(0, .ref (α 0)), (1, .int (nI 18)), (2, .int (nI p)), (3, .int x), (4, .int y)] [] 0
  refine r_iload_n C (i := 1) 1 dL_call_0 rfl rfl ?_
  refine r_tabIn (off := 230) C 231 dL_call_1 (by decide) (by decide) (by decide) (by decide) ?_
  refine r_aload_n C (i := 0) 0 dL_call_231 rfl rfl ?_
  refine r_iload_n C (i := 2) 2 dL_call_232 rfl rfl ?_
  refine r_iload_n C (i := 3) 3 dL_call_233 rfl rfl ?_
  refine r_iload C (i := 4) 4 dL_call_234 rfl ?_
  refine Ca.one hB.2.2.2 (j := 0) (k' := 1) (rest := []) (Nat.le_refl _) (t_find_nb hst hA (hp := hp) (hx := hx)) lk_L_tryFind w_4_154 dL_call_236 rfl ⟨by decide, by decide⟩ (Nat.le_of_ble_eq_true rfl) (fun v9 w9 hp => ?_)
  obtain ⟨rfl, hA9⟩ := hp
  exact (hB.2.2.1 1 (Nat.le_refl _)).1 _ _ _ _ _ dL_call_239 rfl rfl ⟨rfl, hA9⟩ (hA9.fst.trans hA.fst.symm)
set_option maxRecDepth 100000 in
theorem cl_find_nc {l : Launch} {E : Ev} (hst : l.stackTraces = false) {α : Nat → Nat} {σ : Sg} {hs : Nat → Sg} {cnt : Nat} {ks : Nat → Sg} {kd : Nat → Nat} {w : va_W} (hA : Ar E α σ hs cnt ks kd w) {p a : Nat}{x : Int32}(hp : p < sP σ)(ha : a < sA σ)(hx : x < 0) : CtN l E yL_call cL_call 5 (some FieldType.int) none 9 195 1 [.ref (α 0), .int (nI 18), .int (nI p), .int (nI a), .int x] w (fun v9 w9 => v9 = some (.int (-9999002)) ∧ Ar E α σ hs cnt ks kd w9) := by
  have hW := hA.W
  have hwP := hW.P
  have hwA := hW.A
  refine ctn_of (by decide +kernel) (Nat.le_of_ble_eq_true rfl) (fun Ω hB => ?_)
  have C := hB.1 0 (Nat.zero_le _)
  show Ω 0 w [(0, .ref (α 0)), (1, .int (nI 18)), (2, .int (nI p)), (3, .int (nI a)), (4, .int x)] [] 0
  refine r_iload_n C (i := 1) 1 dL_call_0 rfl rfl ?_
  refine r_tabIn (off := 230) C 231 dL_call_1 (by decide) (by decide) (by decide) (by decide) ?_
  refine r_aload_n C (i := 0) 0 dL_call_231 rfl rfl ?_
  refine r_iload_n C (i := 2) 2 dL_call_232 rfl rfl ?_
  refine r_iload_n C (i := 3) 3 dL_call_233 rfl rfl ?_
  refine r_iload C (i := 4) 4 dL_call_234 rfl ?_
  refine Ca.one hB.2.2.2 (j := 0) (k' := 1) (rest := []) (Nat.le_refl _) (t_find_nc hst hA (hp := hp) (ha := ha) (hx := hx)) lk_L_tryFind w_4_154 dL_call_236 rfl ⟨by decide, by decide⟩ (Nat.le_of_ble_eq_true rfl) (fun v9 w9 hp => ?_)
  obtain ⟨rfl, hA9⟩ := hp
  exact (hB.2.2.1 1 (Nat.le_refl _)).1 _ _ _ _ _ dL_call_239 rfl rfl ⟨rfl, hA9⟩ (hA9.fst.trans hA.fst.symm)
set_option maxRecDepth 100000 in
theorem cl_together {l : Launch} {E : Ev} (hst : l.stackTraces = false) {α : Nat → Nat} {σ : Sg} {hs : Nat → Sg} {cnt : Nat} {ks : Nat → Sg} {kd : Nat → Nat} {w : va_W} (hA : Ar E α σ hs cnt ks kd w) {a c : Nat}(ha : a < sA σ)(hc : c < sA σ) {u3 : Int32} : CtN l E yL_call cL_call 5 (some FieldType.int) none 9 195 0 [.ref (α 0), .int (nI 19), .int (nI a), .int (nI c), .int u3] w (fun v9 w9 => v9 = some (.int (nI (tgN σ a c 20))) ∧ Ar E α σ hs cnt ks kd w9) := by
  have hW := hA.W
  have hwP := hW.P
  have hwA := hW.A
  refine ctn_of (by decide +kernel) (Nat.le_of_ble_eq_true rfl) (fun Ω hB => ?_)
  have C := hB.1 0 (Nat.zero_le _)
  show Ω 0 w [(0, .ref (α 0)), (1, .int (nI 19)), (2, .int (nI a)), (3, .int (nI c)), (4, .int u3)] [] 0
  refine r_iload_n C (i := 1) 1 dL_call_0 rfl rfl ?_
  refine r_tabIn (off := 239) C 240 dL_call_1 (by decide) (by decide) (by decide) (by decide) ?_
  refine r_aload_n C (i := 0) 0 dL_call_240 rfl rfl ?_
  refine r_iload_n C (i := 2) 2 dL_call_241 rfl rfl ?_
  refine r_iload_n C (i := 3) 3 dL_call_242 rfl rfl ?_
  refine Ca.one hB.2.2.2 (j := 0) (k' := 0) (rest := []) (Nat.le_refl _) (t_together hst hA (ha := ha) (hc := hc)) lk_L_tryTogether w_4_166 dL_call_243 rfl ⟨by decide, by decide⟩ (Nat.le_of_ble_eq_true rfl) (fun v9 w9 hp => ?_)
  obtain ⟨rfl, hA9⟩ := hp
  exact (hB.2.2.1 0 (Nat.le_refl _)).1 _ _ _ _ _ dL_call_246 rfl rfl ⟨rfl, hA9⟩ (hA9.fst.trans hA.fst.symm)
set_option maxRecDepth 100000 in
theorem cl_together_nb {l : Launch} {E : Ev} (hst : l.stackTraces = false) {α : Nat → Nat} {σ : Sg} {hs : Nat → Sg} {cnt : Nat} {ks : Nat → Sg} {kd : Nat → Nat} {w : va_W} (hA : Ar E α σ hs cnt ks kd w) {a : Nat}{x : Int32}(ha : a < sA σ)(hx : ¬ vI x (sA σ)) {u3 : Int32} : CtN l E yL_call cL_call 5 (some FieldType.int) none 9 195 1 [.ref (α 0), .int (nI 19), .int (nI a), .int x, .int u3] w (fun v9 w9 => v9 = some (.int (-9999001)) ∧ Ar E α σ hs cnt ks kd w9) := by
  have hW := hA.W
  have hwP := hW.P
  have hwA := hW.A
  refine ctn_of (by decide +kernel) (Nat.le_of_ble_eq_true rfl) (fun Ω hB => ?_)
  have C := hB.1 0 (Nat.zero_le _)
  show Ω 0 w [(0, .ref (α 0)), (1, .int (nI 19)), (2, .int (nI a)), (3, .int x), (4, .int u3)] [] 0
  refine r_iload_n C (i := 1) 1 dL_call_0 rfl rfl ?_
  refine r_tabIn (off := 239) C 240 dL_call_1 (by decide) (by decide) (by decide) (by decide) ?_
  refine r_aload_n C (i := 0) 0 dL_call_240 rfl rfl ?_
  refine r_iload_n C (i := 2) 2 dL_call_241 rfl rfl ?_
  refine r_iload_n C (i := 3) 3 dL_call_242 rfl rfl ?_
  refine Ca.one hB.2.2.2 (j := 0) (k' := 1) (rest := []) (Nat.le_refl _) (t_together_nb hst hA (ha := ha) (hx := hx)) lk_L_tryTogether w_4_166 dL_call_243 rfl ⟨by decide, by decide⟩ (Nat.le_of_ble_eq_true rfl) (fun v9 w9 hp => ?_)
  obtain ⟨rfl, hA9⟩ := hp
  exact (hB.2.2.1 1 (Nat.le_refl _)).1 _ _ _ _ _ dL_call_246 rfl rfl ⟨rfl, hA9⟩ (hA9.fst.trans hA.fst.symm)
set_option maxRecDepth 100000 in
theorem cl_longest {l : Launch} {E : Ev} (hst : l.stackTraces = false) {α : Nat → Nat} {σ : Sg} {hs : Nat → Sg} {cnt : Nat} {ks : Nat → Sg} {kd : Nat → Nat} {w : va_W} (hA : Ar E α σ hs cnt ks kd w) {p a : Nat}(hp : p < sP σ)(ha : a < sA σ) {u3 : Int32} : CtN l E yL_call cL_call 5 (some FieldType.int) none 9 195 0 [.ref (α 0), .int (nI 20), .int (nI p), .int (nI a), .int u3] w (fun v9 w9 => v9 = some (.int (nI (lgB σ p a 20))) ∧ Ar E α σ hs cnt ks kd w9) := by
  have hW := hA.W
  have hwP := hW.P
  have hwA := hW.A
  refine ctn_of (by decide +kernel) (Nat.le_of_ble_eq_true rfl) (fun Ω hB => ?_)
  have C := hB.1 0 (Nat.zero_le _)
  show Ω 0 w [(0, .ref (α 0)), (1, .int (nI 20)), (2, .int (nI p)), (3, .int (nI a)), (4, .int u3)] [] 0
  refine r_iload_n C (i := 1) 1 dL_call_0 rfl rfl ?_
  refine r_tabIn (off := 246) C 247 dL_call_1 (by decide) (by decide) (by decide) (by decide) ?_
  refine r_aload_n C (i := 0) 0 dL_call_247 rfl rfl ?_
  refine r_iload_n C (i := 2) 2 dL_call_248 rfl rfl ?_
  refine r_iload_n C (i := 3) 3 dL_call_249 rfl rfl ?_
  refine Ca.one hB.2.2.2 (j := 0) (k' := 0) (rest := []) (Nat.le_refl _) (t_longest hst hA (hp := hp) (ha := ha)) lk_L_tryLongest w_4_173 dL_call_250 rfl ⟨by decide, by decide⟩ (Nat.le_of_ble_eq_true rfl) (fun v9 w9 hp => ?_)
  obtain ⟨rfl, hA9⟩ := hp
  exact (hB.2.2.1 0 (Nat.le_refl _)).1 _ _ _ _ _ dL_call_253 rfl rfl ⟨rfl, hA9⟩ (hA9.fst.trans hA.fst.symm)
set_option maxRecDepth 100000 in
theorem cl_longest_na {l : Launch} {E : Ev} (hst : l.stackTraces = false) {α : Nat → Nat} {σ : Sg} {hs : Nat → Sg} {cnt : Nat} {ks : Nat → Sg} {kd : Nat → Nat} {w : va_W} (hA : Ar E α σ hs cnt ks kd w) {x y : Int32}(hx : ¬ vI x (sP σ)) {u3 : Int32} : CtN l E yL_call cL_call 5 (some FieldType.int) none 9 195 1 [.ref (α 0), .int (nI 20), .int x, .int y, .int u3] w (fun v9 w9 => v9 = some (.int (-9999001)) ∧ Ar E α σ hs cnt ks kd w9) := by
  have hW := hA.W
  have hwP := hW.P
  have hwA := hW.A
  refine ctn_of (by decide +kernel) (Nat.le_of_ble_eq_true rfl) (fun Ω hB => ?_)
  have C := hB.1 0 (Nat.zero_le _)
  show Ω 0 w [(0, .ref (α 0)), (1, .int (nI 20)), (2, .int x), (3, .int y), (4, .int u3)] [] 0
  refine r_iload_n C (i := 1) 1 dL_call_0 rfl rfl ?_
  refine r_tabIn (off := 246) C 247 dL_call_1 (by decide) (by decide) (by decide) (by decide) ?_
  refine r_aload_n C (i := 0) 0 dL_call_247 rfl rfl ?_
  refine r_iload_n C (i := 2) 2 dL_call_248 rfl rfl ?_
  refine r_iload_n C (i := 3) 3 dL_call_249 rfl rfl ?_
  refine Ca.one hB.2.2.2 (j := 0) (k' := 1) (rest := []) (Nat.le_refl _) (t_longest_na hst hA (hx := hx)) lk_L_tryLongest w_4_173 dL_call_250 rfl ⟨by decide, by decide⟩ (Nat.le_of_ble_eq_true rfl) (fun v9 w9 hp => ?_)
  obtain ⟨rfl, hA9⟩ := hp
  exact (hB.2.2.1 1 (Nat.le_refl _)).1 _ _ _ _ _ dL_call_253 rfl rfl ⟨rfl, hA9⟩ (hA9.fst.trans hA.fst.symm)
set_option maxRecDepth 100000 in
theorem cl_would_0 {l : Launch} {E : Ev} (hst : l.stackTraces = false) {α : Nat → Nat} {σ : Sg} {hs : Nat → Sg} {cnt : Nat} {ks : Nat → Sg} {kd : Nat → Nat} {w : va_W} (hA : Ar E α σ hs cnt ks kd w) {a n : Nat}(ha : a < sA σ)(hn : n < 20) : CtN l E yL_call cL_call 5 (some FieldType.int) none 9 195 0 [.ref (α 0), .int (nI 21), .int (nI a), .int (nI n), .int (nI 0)] w (fun v9 w9 => v9 = some (.int (nI (chg σ (oFl σ a n) n))) ∧ Ar E α σ hs cnt ks kd w9) := by
  have hW := hA.W
  have hwP := hW.P
  have hwA := hW.A
  refine ctn_of (by decide +kernel) (Nat.le_of_ble_eq_true rfl) (fun Ω hB => ?_)
  have C := hB.1 0 (Nat.zero_le _)
  show Ω 0 w [(0, .ref (α 0)), (1, .int (nI 21)), (2, .int (nI a)), (3, .int (nI n)), (4, .int (nI 0))] [] 0
  refine r_iload_n C (i := 1) 1 dL_call_0 rfl rfl ?_
  refine r_tabIn (off := 253) C 254 dL_call_1 (by decide) (by decide) (by decide) (by decide) ?_
  refine r_aload_n C (i := 0) 0 dL_call_254 rfl rfl ?_
  refine r_iload_n C (i := 2) 2 dL_call_255 rfl rfl ?_
  refine r_iload_n C (i := 3) 3 dL_call_256 rfl rfl ?_
  refine r_iload C (i := 4) 4 dL_call_257 rfl ?_
  refine Ca.one hB.2.2.2 (j := 0) (k' := 0) (rest := []) (Nat.le_refl _) (t_would_0 hst hA (ha := ha) (hn := hn)) lk_L_tryWould w_4_183 dL_call_259 rfl ⟨by decide, by decide⟩ (Nat.le_of_ble_eq_true rfl) (fun v9 w9 hp => ?_)
  obtain ⟨rfl, hA9⟩ := hp
  exact (hB.2.2.1 0 (Nat.le_refl _)).1 _ _ _ _ _ dL_call_262 rfl rfl ⟨rfl, hA9⟩ (hA9.fst.trans hA.fst.symm)
set_option maxRecDepth 100000 in
theorem cl_would_1 {l : Launch} {E : Ev} (hst : l.stackTraces = false) {α : Nat → Nat} {σ : Sg} {hs : Nat → Sg} {cnt : Nat} {ks : Nat → Sg} {kd : Nat → Nat} {w : va_W} (hA : Ar E α σ hs cnt ks kd w) {a n : Nat}(ha : a < sA σ)(hn : n < 20) : CtN l E yL_call cL_call 5 (some FieldType.int) none 9 195 0 [.ref (α 0), .int (nI 21), .int (nI a), .int (nI n), .int (nI 1)] w (fun v9 w9 => v9 = some (.int (nI (tak (oFl σ a n) n) - nI (tak σ n))) ∧ Ar E α σ hs cnt ks kd w9) := by
  have hW := hA.W
  have hwP := hW.P
  have hwA := hW.A
  refine ctn_of (by decide +kernel) (Nat.le_of_ble_eq_true rfl) (fun Ω hB => ?_)
  have C := hB.1 0 (Nat.zero_le _)
  show Ω 0 w [(0, .ref (α 0)), (1, .int (nI 21)), (2, .int (nI a)), (3, .int (nI n)), (4, .int (nI 1))] [] 0
  refine r_iload_n C (i := 1) 1 dL_call_0 rfl rfl ?_
  refine r_tabIn (off := 253) C 254 dL_call_1 (by decide) (by decide) (by decide) (by decide) ?_
  refine r_aload_n C (i := 0) 0 dL_call_254 rfl rfl ?_
  refine r_iload_n C (i := 2) 2 dL_call_255 rfl rfl ?_
  refine r_iload_n C (i := 3) 3 dL_call_256 rfl rfl ?_
  refine r_iload C (i := 4) 4 dL_call_257 rfl ?_
  refine Ca.one hB.2.2.2 (j := 0) (k' := 0) (rest := []) (Nat.le_refl _) (t_would_1 hst hA (ha := ha) (hn := hn)) lk_L_tryWould w_4_183 dL_call_259 rfl ⟨by decide, by decide⟩ (Nat.le_of_ble_eq_true rfl) (fun v9 w9 hp => ?_)
  obtain ⟨rfl, hA9⟩ := hp
  exact (hB.2.2.1 0 (Nat.le_refl _)).1 _ _ _ _ _ dL_call_262 rfl rfl ⟨rfl, hA9⟩ (hA9.fst.trans hA.fst.symm)
set_option maxRecDepth 100000 in
theorem cl_would_nb {l : Launch} {E : Ev} (hst : l.stackTraces = false) {α : Nat → Nat} {σ : Sg} {hs : Nat → Sg} {cnt : Nat} {ks : Nat → Sg} {kd : Nat → Nat} {w : va_W} (hA : Ar E α σ hs cnt ks kd w) {a : Nat}{x y : Int32}(ha : a < sA σ)(hx : ¬ vI x 20) : CtN l E yL_call cL_call 5 (some FieldType.int) none 9 195 1 [.ref (α 0), .int (nI 21), .int (nI a), .int x, .int y] w (fun v9 w9 => v9 = some (.int (-9999001)) ∧ Ar E α σ hs cnt ks kd w9) := by
  have hW := hA.W
  have hwP := hW.P
  have hwA := hW.A
  refine ctn_of (by decide +kernel) (Nat.le_of_ble_eq_true rfl) (fun Ω hB => ?_)
  have C := hB.1 0 (Nat.zero_le _)
  show Ω 0 w [(0, .ref (α 0)), (1, .int (nI 21)), (2, .int (nI a)), (3, .int x), (4, .int y)] [] 0
  refine r_iload_n C (i := 1) 1 dL_call_0 rfl rfl ?_
  refine r_tabIn (off := 253) C 254 dL_call_1 (by decide) (by decide) (by decide) (by decide) ?_
  refine r_aload_n C (i := 0) 0 dL_call_254 rfl rfl ?_
  refine r_iload_n C (i := 2) 2 dL_call_255 rfl rfl ?_
  refine r_iload_n C (i := 3) 3 dL_call_256 rfl rfl ?_
  refine r_iload C (i := 4) 4 dL_call_257 rfl ?_
  refine Ca.one hB.2.2.2 (j := 0) (k' := 1) (rest := []) (Nat.le_refl _) (t_would_nb hst hA (ha := ha) (hx := hx)) lk_L_tryWould w_4_183 dL_call_259 rfl ⟨by decide, by decide⟩ (Nat.le_of_ble_eq_true rfl) (fun v9 w9 hp => ?_)
  obtain ⟨rfl, hA9⟩ := hp
  exact (hB.2.2.1 1 (Nat.le_refl _)).1 _ _ _ _ _ dL_call_262 rfl rfl ⟨rfl, hA9⟩ (hA9.fst.trans hA.fst.symm)
set_option maxRecDepth 100000 in
theorem cl_would_nc {l : Launch} {E : Ev} (hst : l.stackTraces = false) {α : Nat → Nat} {σ : Sg} {hs : Nat → Sg} {cnt : Nat} {ks : Nat → Sg} {kd : Nat → Nat} {w : va_W} (hA : Ar E α σ hs cnt ks kd w) {a n : Nat}{x : Int32}(ha : a < sA σ)(hn : n < 20)(hx : ¬ vI x 2) : CtN l E yL_call cL_call 5 (some FieldType.int) none 9 195 1 [.ref (α 0), .int (nI 21), .int (nI a), .int (nI n), .int x] w (fun v9 w9 => v9 = some (.int (-9999002)) ∧ Ar E α σ hs cnt ks kd w9) := by
  have hW := hA.W
  have hwP := hW.P
  have hwA := hW.A
  refine ctn_of (by decide +kernel) (Nat.le_of_ble_eq_true rfl) (fun Ω hB => ?_)
  have C := hB.1 0 (Nat.zero_le _)
  show Ω 0 w [(0, .ref (α 0)), (1, .int (nI 21)), (2, .int (nI a)), (3, .int (nI n)), (4, .int x)] [] 0
  refine r_iload_n C (i := 1) 1 dL_call_0 rfl rfl ?_
  refine r_tabIn (off := 253) C 254 dL_call_1 (by decide) (by decide) (by decide) (by decide) ?_
  refine r_aload_n C (i := 0) 0 dL_call_254 rfl rfl ?_
  refine r_iload_n C (i := 2) 2 dL_call_255 rfl rfl ?_
  refine r_iload_n C (i := 3) 3 dL_call_256 rfl rfl ?_
  refine r_iload C (i := 4) 4 dL_call_257 rfl ?_
  refine Ca.one hB.2.2.2 (j := 0) (k' := 1) (rest := []) (Nat.le_refl _) (t_would_nc hst hA (ha := ha) (hn := hn) (hx := hx)) lk_L_tryWould w_4_183 dL_call_259 rfl ⟨by decide, by decide⟩ (Nat.le_of_ble_eq_true rfl) (fun v9 w9 hp => ?_)
  obtain ⟨rfl, hA9⟩ := hp
  exact (hB.2.2.1 1 (Nat.le_refl _)).1 _ _ _ _ _ dL_call_262 rfl rfl ⟨rfl, hA9⟩ (hA9.fst.trans hA.fst.symm)
set_option maxRecDepth 100000 in
theorem cl_best {l : Launch} {E : Ev} (hst : l.stackTraces = false) {α : Nat → Nat} {σ : Sg} {hs : Nat → Sg} {cnt : Nat} {ks : Nat → Sg} {kd : Nat → Nat} {w : va_W} (hA : Ar E α σ hs cnt ks kd w) {p : Nat}(hp : p < sP σ) {u2 u3 : Int32} : CtN l E yL_call cL_call 5 (some FieldType.int) none 9 195 0 [.ref (α 0), .int (nI 22), .int (nI p), .int u2, .int u3] w (fun v9 w9 => v9 = some (.int (mI ((bu σ p (sA σ)).1))) ∧ Ar E α σ hs cnt ks kd w9) := by
  have hW := hA.W
  have hwP := hW.P
  have hwA := hW.A
  refine ctn_of (by decide +kernel) (Nat.le_of_ble_eq_true rfl) (fun Ω hB => ?_)
  have C := hB.1 0 (Nat.zero_le _)
  show Ω 0 w [(0, .ref (α 0)), (1, .int (nI 22)), (2, .int (nI p)), (3, .int u2), (4, .int u3)] [] 0
  refine r_iload_n C (i := 1) 1 dL_call_0 rfl rfl ?_
  refine r_tabIn (off := 262) C 263 dL_call_1 (by decide) (by decide) (by decide) (by decide) ?_
  refine r_aload_n C (i := 0) 0 dL_call_263 rfl rfl ?_
  refine r_iload_n C (i := 2) 2 dL_call_264 rfl rfl ?_
  refine Ca.one hB.2.2.2 (j := 0) (k' := 0) (rest := []) (Nat.le_refl _) (t_best hst hA (hp := hp)) lk_L_tryBest w_4_199 dL_call_265 rfl ⟨by decide, by decide⟩ (Nat.le_of_ble_eq_true rfl) (fun v9 w9 hp => ?_)
  obtain ⟨rfl, hA9⟩ := hp
  exact (hB.2.2.1 0 (Nat.le_refl _)).1 _ _ _ _ _ dL_call_268 rfl rfl ⟨rfl, hA9⟩ (hA9.fst.trans hA.fst.symm)
set_option maxRecDepth 100000 in
theorem cl_best_no {l : Launch} {E : Ev} (hst : l.stackTraces = false) {α : Nat → Nat} {σ : Sg} {hs : Nat → Sg} {cnt : Nat} {ks : Nat → Sg} {kd : Nat → Nat} {w : va_W} (hA : Ar E α σ hs cnt ks kd w) {x : Int32}(hx : ¬ vI x (sP σ)) {u2 u3 : Int32} : CtN l E yL_call cL_call 5 (some FieldType.int) none 9 195 1 [.ref (α 0), .int (nI 22), .int x, .int u2, .int u3] w (fun v9 w9 => v9 = some (.int (-9999001)) ∧ Ar E α σ hs cnt ks kd w9) := by
  have hW := hA.W
  have hwP := hW.P
  have hwA := hW.A
  refine ctn_of (by decide +kernel) (Nat.le_of_ble_eq_true rfl) (fun Ω hB => ?_)
  have C := hB.1 0 (Nat.zero_le _)
  show Ω 0 w [(0, .ref (α 0)), (1, .int (nI 22)), (2, .int x), (3, .int u2), (4, .int u3)] [] 0
  refine r_iload_n C (i := 1) 1 dL_call_0 rfl rfl ?_
  refine r_tabIn (off := 262) C 263 dL_call_1 (by decide) (by decide) (by decide) (by decide) ?_
  refine r_aload_n C (i := 0) 0 dL_call_263 rfl rfl ?_
  refine r_iload_n C (i := 2) 2 dL_call_264 rfl rfl ?_
  refine Ca.one hB.2.2.2 (j := 0) (k' := 1) (rest := []) (Nat.le_refl _) (t_best_no hst hA (hx := hx)) lk_L_tryBest w_4_199 dL_call_265 rfl ⟨by decide, by decide⟩ (Nat.le_of_ble_eq_true rfl) (fun v9 w9 hp => ?_)
  obtain ⟨rfl, hA9⟩ := hp
  exact (hB.2.2.1 1 (Nat.le_refl _)).1 _ _ _ _ _ dL_call_268 rfl rfl ⟨rfl, hA9⟩ (hA9.fst.trans hA.fst.symm)
set_option maxRecDepth 100000 in
theorem cl_keep {l : Launch} {E : Ev} (hst : l.stackTraces = false) {α : Nat → Nat} {σ : Sg} {hs : Nat → Sg} {cnt : Nat} {ks : Nat → Sg} {kd : Nat → Nat} {w : va_W} (hA : Ar E α σ hs cnt ks kd w) {k : Nat}(hk : k < 2) {u2 u3 : Int32} : CtN l E yL_call cL_call 5 (some FieldType.int) none 9 195 0 [.ref (α 0), .int (nI 23), .int (nI k), .int u2, .int u3] w (fun v9 w9 => v9 = some (.int (nI (sS σ))) ∧ Ar E α σ hs cnt (fun i => if i = k then σ else ks i) (fun i => if i = k then 1 else kd i) w9) := by
  have hW := hA.W
  have hwP := hW.P
  have hwA := hW.A
  refine ctn_of (by decide +kernel) (Nat.le_of_ble_eq_true rfl) (fun Ω hB => ?_)
  have C := hB.1 0 (Nat.zero_le _)
  show Ω 0 w [(0, .ref (α 0)), (1, .int (nI 23)), (2, .int (nI k)), (3, .int u2), (4, .int u3)] [] 0
  refine r_iload_n C (i := 1) 1 dL_call_0 rfl rfl ?_
  refine r_tabIn (off := 268) C 269 dL_call_1 (by decide) (by decide) (by decide) (by decide) ?_
  refine r_aload_n C (i := 0) 0 dL_call_269 rfl rfl ?_
  refine r_iload_n C (i := 2) 2 dL_call_270 rfl rfl ?_
  refine Ca.one hB.2.2.2 (j := 0) (k' := 0) (rest := []) (Nat.le_refl _) (t_keep hst hA (hk := hk)) lk_L_tryKeep w_4_210 dL_call_271 rfl ⟨by decide, by decide⟩ (Nat.le_of_ble_eq_true rfl) (fun v9 w9 hp => ?_)
  obtain ⟨rfl, hA9⟩ := hp
  exact (hB.2.2.1 0 (Nat.le_refl _)).1 _ _ _ _ _ dL_call_274 rfl rfl ⟨rfl, hA9⟩ (hA9.fst.trans hA.fst.symm)
set_option maxRecDepth 100000 in
theorem cl_keep_no {l : Launch} {E : Ev} (hst : l.stackTraces = false) {α : Nat → Nat} {σ : Sg} {hs : Nat → Sg} {cnt : Nat} {ks : Nat → Sg} {kd : Nat → Nat} {w : va_W} (hA : Ar E α σ hs cnt ks kd w) {x : Int32}(hx : ¬ vI x 2) {u2 u3 : Int32} : CtN l E yL_call cL_call 5 (some FieldType.int) none 9 195 1 [.ref (α 0), .int (nI 23), .int x, .int u2, .int u3] w (fun v9 w9 => v9 = some (.int (-9999001)) ∧ Ar E α σ hs cnt ks kd w9) := by
  have hW := hA.W
  have hwP := hW.P
  have hwA := hW.A
  refine ctn_of (by decide +kernel) (Nat.le_of_ble_eq_true rfl) (fun Ω hB => ?_)
  have C := hB.1 0 (Nat.zero_le _)
  show Ω 0 w [(0, .ref (α 0)), (1, .int (nI 23)), (2, .int x), (3, .int u2), (4, .int u3)] [] 0
  refine r_iload_n C (i := 1) 1 dL_call_0 rfl rfl ?_
  refine r_tabIn (off := 268) C 269 dL_call_1 (by decide) (by decide) (by decide) (by decide) ?_
  refine r_aload_n C (i := 0) 0 dL_call_269 rfl rfl ?_
  refine r_iload_n C (i := 2) 2 dL_call_270 rfl rfl ?_
  refine Ca.one hB.2.2.2 (j := 0) (k' := 1) (rest := []) (Nat.le_refl _) (t_keep_no hst hA (hx := hx)) lk_L_tryKeep w_4_210 dL_call_271 rfl ⟨by decide, by decide⟩ (Nat.le_of_ble_eq_true rfl) (fun v9 w9 hp => ?_)
  obtain ⟨rfl, hA9⟩ := hp
  exact (hB.2.2.1 1 (Nat.le_refl _)).1 _ _ _ _ _ dL_call_274 rfl rfl ⟨rfl, hA9⟩ (hA9.fst.trans hA.fst.symm)
set_option maxRecDepth 100000 in
theorem cl_back {l : Launch} {E : Ev} (hst : l.stackTraces = false) {α : Nat → Nat} {σ : Sg} {hs : Nat → Sg} {cnt : Nat} {ks : Nat → Sg} {kd : Nat → Nat} {w : va_W} (hA : Ar E α σ hs cnt ks kd w) {k : Nat}(hk : k < 2) (hq : kd k = 1) {u2 u3 : Int32} : CtN l E yL_call cL_call 5 (some FieldType.int) none 9 195 0 [.ref (α 0), .int (nI 24), .int (nI k), .int u2, .int u3] w (fun v9 w9 => v9 = some (.int (nI (sS (ks k)))) ∧ Ar E α (ks k) hs 0 ks kd w9) := by
  have hW := hA.W
  have hwP := hW.P
  have hwA := hW.A
  refine ctn_of (by decide +kernel) (Nat.le_of_ble_eq_true rfl) (fun Ω hB => ?_)
  have C := hB.1 0 (Nat.zero_le _)
  show Ω 0 w [(0, .ref (α 0)), (1, .int (nI 24)), (2, .int (nI k)), (3, .int u2), (4, .int u3)] [] 0
  refine r_iload_n C (i := 1) 1 dL_call_0 rfl rfl ?_
  refine r_tabOut C 275 dL_call_1 (by decide) (by decide) ?_
  refine r_aload_n C (i := 0) 0 dL_call_275 rfl rfl ?_
  refine r_iload_n C (i := 2) 2 dL_call_276 rfl rfl ?_
  refine Ca.one hB.2.2.2 (j := 0) (k' := 0) (rest := []) (Nat.le_refl _) (t_back hst hA (hk := hk) (hq := hq)) lk_L_tryBack w_4_222 dL_call_277 rfl ⟨by decide, by decide⟩ (Nat.le_of_ble_eq_true rfl) (fun v9 w9 hp => ?_)
  obtain ⟨rfl, hA9⟩ := hp
  exact (hB.2.2.1 0 (Nat.le_refl _)).1 _ _ _ _ _ dL_call_280 rfl rfl ⟨rfl, hA9⟩ (hA9.fst.trans hA.fst.symm)
set_option maxRecDepth 100000 in
theorem cl_back_na {l : Launch} {E : Ev} (hst : l.stackTraces = false) {α : Nat → Nat} {σ : Sg} {hs : Nat → Sg} {cnt : Nat} {ks : Nat → Sg} {kd : Nat → Nat} {w : va_W} (hA : Ar E α σ hs cnt ks kd w) {x : Int32}(hx : ¬ vI x 2) {u2 u3 : Int32} : CtN l E yL_call cL_call 5 (some FieldType.int) none 9 195 1 [.ref (α 0), .int (nI 24), .int x, .int u2, .int u3] w (fun v9 w9 => v9 = some (.int (-9999001)) ∧ Ar E α σ hs cnt ks kd w9) := by
  have hW := hA.W
  have hwP := hW.P
  have hwA := hW.A
  refine ctn_of (by decide +kernel) (Nat.le_of_ble_eq_true rfl) (fun Ω hB => ?_)
  have C := hB.1 0 (Nat.zero_le _)
  show Ω 0 w [(0, .ref (α 0)), (1, .int (nI 24)), (2, .int x), (3, .int u2), (4, .int u3)] [] 0
  refine r_iload_n C (i := 1) 1 dL_call_0 rfl rfl ?_
  refine r_tabOut C 275 dL_call_1 (by decide) (by decide) ?_
  refine r_aload_n C (i := 0) 0 dL_call_275 rfl rfl ?_
  refine r_iload_n C (i := 2) 2 dL_call_276 rfl rfl ?_
  refine Ca.one hB.2.2.2 (j := 0) (k' := 1) (rest := []) (Nat.le_refl _) (t_back_na hst hA (hx := hx)) lk_L_tryBack w_4_222 dL_call_277 rfl ⟨by decide, by decide⟩ (Nat.le_of_ble_eq_true rfl) (fun v9 w9 hp => ?_)
  obtain ⟨rfl, hA9⟩ := hp
  exact (hB.2.2.1 1 (Nat.le_refl _)).1 _ _ _ _ _ dL_call_280 rfl rfl ⟨rfl, hA9⟩ (hA9.fst.trans hA.fst.symm)
set_option maxRecDepth 100000 in
theorem cl_back_nb {l : Launch} {E : Ev} (hst : l.stackTraces = false) {α : Nat → Nat} {σ : Sg} {hs : Nat → Sg} {cnt : Nat} {ks : Nat → Sg} {kd : Nat → Nat} {w : va_W} (hA : Ar E α σ hs cnt ks kd w) {k : Nat}(hk : k < 2) (hx : kd k ≠ 1) {u2 u3 : Int32} : CtN l E yL_call cL_call 5 (some FieldType.int) none 9 195 1 [.ref (α 0), .int (nI 24), .int (nI k), .int u2, .int u3] w (fun v9 w9 => v9 = some (.int (-9999003)) ∧ Ar E α σ hs cnt ks kd w9) := by
  have hW := hA.W
  have hwP := hW.P
  have hwA := hW.A
  refine ctn_of (by decide +kernel) (Nat.le_of_ble_eq_true rfl) (fun Ω hB => ?_)
  have C := hB.1 0 (Nat.zero_le _)
  show Ω 0 w [(0, .ref (α 0)), (1, .int (nI 24)), (2, .int (nI k)), (3, .int u2), (4, .int u3)] [] 0
  refine r_iload_n C (i := 1) 1 dL_call_0 rfl rfl ?_
  refine r_tabOut C 275 dL_call_1 (by decide) (by decide) ?_
  refine r_aload_n C (i := 0) 0 dL_call_275 rfl rfl ?_
  refine r_iload_n C (i := 2) 2 dL_call_276 rfl rfl ?_
  refine Ca.one hB.2.2.2 (j := 0) (k' := 1) (rest := []) (Nat.le_refl _) (t_back_nb hst hA (hk := hk) (hx := hx)) lk_L_tryBack w_4_222 dL_call_277 rfl ⟨by decide, by decide⟩ (Nat.le_of_ble_eq_true rfl) (fun v9 w9 hp => ?_)
  obtain ⟨rfl, hA9⟩ := hp
  exact (hB.2.2.1 1 (Nat.le_refl _)).1 _ _ _ _ _ dL_call_280 rfl rfl ⟨rfl, hA9⟩ (hA9.fst.trans hA.fst.symm)
set_option maxRecDepth 100000 in
theorem cl_append_no {l : Launch} {E : Ev} (hst : l.stackTraces = false) {α : Nat → Nat} {σ : Sg} {hs : Nat → Sg} {cnt : Nat} {ks : Nat → Sg} {kd : Nat → Nat} {w : va_W} (hA : Ar E α σ hs cnt ks kd w) {x : Int32}(hx : ¬ vI x 256) {u2 u3 : Int32} : CtN l E yL_call cL_call 5 (some FieldType.int) none 9 195 1 [.ref (α 0), .int (nI 0), .int x, .int u2, .int u3] w (fun v9 w9 => v9 = some (.int (-9999002)) ∧ Ar E α σ hs cnt ks kd w9) := by
  have hW := hA.W
  have hwP := hW.P
  have hwA := hW.A
  refine ctn_of (by decide +kernel) (Nat.le_of_ble_eq_true rfl) (fun Ω hB => ?_)
  have C := hB.1 0 (Nat.zero_le _)
  show Ω 0 w [(0, .ref (α 0)), (1, .int (nI 0)), (2, .int x), (3, .int u2), (4, .int u3)] [] 0
  refine r_iload_n C (i := 1) 1 dL_call_0 rfl rfl ?_
  refine r_tabIn (off := 111) C 112 dL_call_1 (by decide) (by decide) (by decide) (by decide) ?_
  refine r_aload_n C (i := 0) 0 dL_call_112 rfl rfl ?_
  refine r_iload_n C (i := 2) 2 dL_call_113 rfl rfl ?_
  refine Ca.one hB.2.2.2 (j := 0) (k' := 1) (rest := []) (Nat.le_refl _) (t_append_no hst hA (hx := hx)) lk_L_tryAppend w_2_44 dL_call_114 rfl ⟨by decide, by decide⟩ (Nat.le_of_ble_eq_true rfl) (fun v9 w9 hp => ?_)
  obtain ⟨rfl, hA9⟩ := hp
  exact (hB.2.2.1 1 (Nat.le_refl _)).1 _ _ _ _ _ dL_call_117 rfl rfl ⟨rfl, hA9⟩ (hA9.fst.trans hA.fst.symm)
