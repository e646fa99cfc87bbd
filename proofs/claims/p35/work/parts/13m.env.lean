theorem strT : ∀ q ∈ strL, Cond.stringRef q.1 q.2.1 q.2.2 ∈ tables_1 := List.forall_mem_cons.mpr ⟨w_1_216, List.forall_mem_cons.mpr ⟨w_2_12, List.forall_mem_cons.mpr ⟨w_2_62, List.forall_mem_cons.mpr ⟨w_2_82, List.forall_mem_cons.mpr ⟨w_2_120, List.forall_mem_cons.mpr ⟨w_2_121, List.forall_mem_cons.mpr ⟨w_2_122, List.forall_mem_cons.mpr ⟨w_2_123, List.forall_mem_cons.mpr ⟨w_2_124, List.forall_mem_cons.mpr ⟨w_2_125, List.forall_mem_cons.mpr ⟨w_2_190, List.forall_mem_cons.mpr ⟨w_3_175, List.forall_mem_cons.mpr ⟨w_3_188, List.forall_mem_cons.mpr ⟨w_3_208, List.forall_mem_cons.mpr ⟨w_3_226, List.forall_mem_cons.mpr ⟨w_4_16, List.forall_mem_cons.mpr ⟨w_4_24, List.forall_mem_cons.mpr ⟨w_4_41, List.forall_mem_cons.mpr ⟨w_4_57, List.forall_mem_cons.mpr ⟨w_4_66, List.forall_mem_cons.mpr ⟨w_4_68, List.forall_mem_cons.mpr ⟨w_4_77, List.forall_mem_cons.mpr ⟨w_4_86, List.forall_mem_cons.mpr ⟨w_4_95, List.forall_mem_cons.mpr ⟨w_4_105, List.forall_mem_cons.mpr ⟨w_4_129, List.forall_mem_cons.mpr ⟨w_4_145, List.forall_mem_cons.mpr ⟨w_4_161, List.forall_mem_cons.mpr ⟨w_4_190, List.forall_mem_cons.mpr ⟨w_4_220, List.forall_mem_cons.mpr ⟨w_4_229, List.forall_mem_cons.mpr ⟨w_5_9, List.forall_mem_cons.mpr ⟨w_5_11, List.forall_mem_cons.mpr ⟨w_5_19, List.forall_mem_cons.mpr ⟨w_5_24, List.forall_mem_cons.mpr ⟨w_5_45, fun _ h => absurd h List.not_mem_nil⟩⟩⟩⟩⟩⟩⟩⟩⟩⟩⟩⟩⟩⟩⟩⟩⟩⟩⟩⟩⟩⟩⟩⟩⟩⟩⟩⟩⟩⟩⟩⟩⟩⟩⟩⟩
theorem nestT : ∀ q ∈ nestL, Cond.methodLinkNest q.1 q.2.1 q.2.2.1 q.2.2.2 ∈ tables_1 := List.forall_mem_cons.mpr ⟨w_1_45, List.forall_mem_cons.mpr ⟨w_1_61, List.forall_mem_cons.mpr ⟨w_1_75, List.forall_mem_cons.mpr ⟨w_1_112, List.forall_mem_cons.mpr ⟨w_1_117, List.forall_mem_cons.mpr ⟨w_2_32, List.forall_mem_cons.mpr ⟨w_2_37, List.forall_mem_cons.mpr ⟨w_2_213, List.forall_mem_cons.mpr ⟨w_3_89, fun _ h => absurd h List.not_mem_nil⟩⟩⟩⟩⟩⟩⟩⟩⟩
theorem thT : ∀ w ∈ thL, w ∈ tables_1 := List.forall_mem_cons.mpr ⟨w_1_177, List.forall_mem_cons.mpr ⟨w_1_178, List.forall_mem_cons.mpr ⟨w_1_179, List.forall_mem_cons.mpr ⟨w_1_180, List.forall_mem_cons.mpr ⟨w_1_181, List.forall_mem_cons.mpr ⟨w_1_182, List.forall_mem_cons.mpr ⟨w_1_183, List.forall_mem_cons.mpr ⟨w_2_55, List.forall_mem_cons.mpr ⟨w_2_75, fun _ h => absurd h List.not_mem_nil⟩⟩⟩⟩⟩⟩⟩⟩⟩
/-- what the Statement gives of the start, flat -/
def Fl : List Cond := flatC (Jvm.Cond.and given_1 narrow_1)
set_option maxRecDepth 1000000 in
theorem exT : ∀ q ∈ strL, Cond.exactly (.string q.1 q.2.1) "java/lang/String" ∈ Fl := fun q hq => of_decide_eq_true (List.all_eq_true.mp (by decide +kernel : strL.all (fun q => decide (Cond.exactly (.string q.1 q.2.1) "java/lang/String" ∈ Fl)) = true) q hq)
/-- the six texts' words -/
def txW : List Cond := [Cond.eq (.field (.string "BillArchive$RunText" 50) "java/lang/String" "coder" "B") (.int 0), Cond.arrayOf (.field (.string "BillArchive$RunText" 50) "java/lang/String" "value" "[B") .byte, Cond.eq (.length (.field (.string "BillArchive$RunText" 50) "java/lang/String" "value" "[B")) (.int 1), Cond.eq (.elem (.field (.string "BillArchive$RunText" 50) "java/lang/String" "value" "[B") (.int 0)) (.int 57), Cond.eq (.field (.string "BillArchive$RunText" 52) "java/lang/String" "coder" "B") (.int 0), Cond.arrayOf (.field (.string "BillArchive$RunText" 52) "java/lang/String" "value" "[B") .byte, Cond.eq (.length (.field (.string "BillArchive$RunText" 52) "java/lang/String" "value" "[B")) (.int 4), Cond.eq (.elem (.field (.string "BillArchive$RunText" 52) "java/lang/String" "value" "[B") (.int 0)) (.int 53), Cond.eq (.elem (.field (.string "BillArchive$RunText" 52) "java/lang/String" "value" "[B") (.int 1)) (.int 57), Cond.eq (.elem (.field (.string "BillArchive$RunText" 52) "java/lang/String" "value" "[B") (.int 2)) (.int 49), Cond.eq (.elem (.field (.string "BillArchive$RunText" 52) "java/lang/String" "value" "[B") (.int 3)) (.int 57), Cond.eq (.field (.string "BillArchive$RunText" 54) "java/lang/String" "coder" "B") (.int 0), Cond.arrayOf (.field (.string "BillArchive$RunText" 54) "java/lang/String" "value" "[B") .byte, Cond.eq (.length (.field (.string "BillArchive$RunText" 54) "java/lang/String" "value" "[B")) (.int 2), Cond.eq (.elem (.field (.string "BillArchive$RunText" 54) "java/lang/String" "value" "[B") (.int 0)) (.int 53), Cond.eq (.elem (.field (.string "BillArchive$RunText" 54) "java/lang/String" "value" "[B") (.int 1)) (.int 57), Cond.eq (.field (.string "BillArchive$RunText" 56) "java/lang/String" "coder" "B") (.int 0), Cond.arrayOf (.field (.string "BillArchive$RunText" 56) "java/lang/String" "value" "[B") .byte, Cond.eq (.length (.field (.string "BillArchive$RunText" 56) "java/lang/String" "value" "[B")) (.int 3), Cond.eq (.elem (.field (.string "BillArchive$RunText" 56) "java/lang/String" "value" "[B") (.int 0)) (.int 57), Cond.eq (.elem (.field (.string "BillArchive$RunText" 56) "java/lang/String" "value" "[B") (.int 1)) (.int 49), Cond.eq (.elem (.field (.string "BillArchive$RunText" 56) "java/lang/String" "value" "[B") (.int 2)) (.int 57), Cond.eq (.field (.string "BillArchive$RunText" 58) "java/lang/String" "coder" "B") (.int 0), Cond.arrayOf (.field (.string "BillArchive$RunText" 58) "java/lang/String" "value" "[B") .byte, Cond.eq (.length (.field (.string "BillArchive$RunText" 58) "java/lang/String" "value" "[B")) (.int 6), Cond.eq (.elem (.field (.string "BillArchive$RunText" 58) "java/lang/String" "value" "[B") (.int 0)) (.int 49), Cond.eq (.elem (.field (.string "BillArchive$RunText" 58) "java/lang/String" "value" "[B") (.int 1)) (.int 57), Cond.eq (.elem (.field (.string "BillArchive$RunText" 58) "java/lang/String" "value" "[B") (.int 2)) (.int 53), Cond.eq (.elem (.field (.string "BillArchive$RunText" 58) "java/lang/String" "value" "[B") (.int 3)) (.int 57), Cond.eq (.elem (.field (.string "BillArchive$RunText" 58) "java/lang/String" "value" "[B") (.int 4)) (.int 50), Cond.eq (.elem (.field (.string "BillArchive$RunText" 58) "java/lang/String" "value" "[B") (.int 5)) (.int 104), Cond.eq (.field (.string "BillArchive$RunText" 60) "java/lang/String" "coder" "B") (.int 0), Cond.arrayOf (.field (.string "BillArchive$RunText" 60) "java/lang/String" "value" "[B") .byte, Cond.eq (.length (.field (.string "BillArchive$RunText" 60) "java/lang/String" "value" "[B")) (.int 0)]
set_option maxRecDepth 1000000 in
theorem txT : ∀ w ∈ txW, w ∈ Fl := fun w hw => of_decide_eq_true (List.all_eq_true.mp (by decide +kernel : txW.all (fun w => decide (w ∈ Fl)) = true) w hw)
def stW : List Cond := [Cond.isRef (.static Bundle.tN "UNASSIGNED_STACK" Bundle.steD), Cond.isRef (.static Bundle.tN "SUPPRESSED_SENTINEL" Bundle.listD), Cond.eq (.static "java/lang/String" "COMPACT_STRINGS" "Z") (.int 1), Cond.isRef (.static "jdk/internal/util/Preconditions" "SIOOBE_FORMATTER" "Ljava/util/function/BiFunction;"), Cond.not (.castable "java/lang/IllegalArgumentException" "java/lang/IndexOutOfBoundsException"), Cond.not (.castable "java/lang/IllegalStateException" "java/lang/IllegalArgumentException"), Cond.not (.castable "java/lang/IllegalStateException" "java/lang/IndexOutOfBoundsException")]
set_option maxRecDepth 1000000 in
theorem stT : ∀ w ∈ stW, w ∈ Fl := fun w hw => of_decide_eq_true (List.all_eq_true.mp (by decide +kernel : stW.all (fun w => decide (w ∈ Fl)) = true) w hw)
set_option maxRecDepth 100000 in
set_option maxHeartbeats 4000000 in
/-- what holds at the start: classes, texts, statics -/
theorem env_of {args : Array Value} {s : State} {A : Nat → Prop} (hA : ∀ a : Nat, a < s.heap.size → ¬ A a) (htt : ∀ w ∈ tables_1, w.before args s = true) (ht : ∀ w ∈ Tw, w.before args s = true) (hF : ∀ w ∈ Fl, w.before args s = true) : ∃ E : Ev, va_K E.1 vwCl (tyE E) s ∧ Gw E A s s.heap ∧ Nc3 s := by
  have tx : ∀ (i : Nat) (w : Cond), txW[i]? = some w → w.before args s = true := fun i w h => hF w (txT w (List.mem_of_getElem? h))
  have sw : ∀ (i : Nat) (w : Cond), stW[i]? = some w → w.before args s = true := fun i w h => hF w (stT w (List.mem_of_getElem? h))
  obtain ⟨k0, i0, hk0⟩ := u_known (C := RX0) (T := TX0) (N := 10) (n := 10) ht uX0 (ht _ w_1_74)
  obtain ⟨k1, i1, hk1⟩ := u_known (C := RX1) (T := TX1) (N := 3) (n := 3) ht uX1 (ht _ w_1_44)
  obtain ⟨k2, i2, hk2⟩ := u_known (C := RX2) (T := TX2) (N := 2) (n := 2) ht uX2 (ht _ w_1_60)
  obtain ⟨k3, i3, hk3⟩ := u_known (C := RX3) (T := TX3) (N := 3) (n := 3) ht uX3 (ht _ w_1_111)
  obtain ⟨k4, i4, hk4⟩ := u_known (C := RX4) (T := TX4) (N := 1) (n := 1) ht uX4 (ht _ w_1_29)
  obtain ⟨k5, i5, hk5⟩ := u_known (C := RX5) (T := TX5) (N := 10) (n := 10) ht uX5 (ht _ w_1_21)
  obtain ⟨cI, kkI, cpI, haI, hbI, hcI⟩ := Cond.arrayClass_spec (args := args) (first := s) (o := none) (s := s) (idx := []) (ht _ w_1_42)
  obtain ⟨cZ, kkZ, cpZ, haZ, hbZ, hcZ⟩ := Cond.arrayClass_spec (args := args) (first := s) (o := none) (s := s) (idx := []) (ht _ w_1_72)
  have hst0 : ∀ i : Nat, ∃ a : Nat, ∀ q : String × Nat × String, strL[i]? = some q → (Term.string q.1 q.2.1).eval args s none [] s = some (.ref a) := by
    intro i
    cases hq : strL[i]? with
    | none => exact ⟨0, fun q h => by cases h⟩
    | some q0 =>
      obtain ⟨a, c, cA, kA, q1, -⟩ := Cond.exactly_spec (args := args) (first := s) (o := none) (s := s) (idx := []) (t := .string q0.1 q0.2.1) (cls := "java/lang/String") (hF _ (exT _ (List.mem_of_getElem? hq)))
      exact ⟨a, fun q h => by cases h; exact q1⟩
  obtain ⟨ad, had⟩ := Classical.axiomOfChoice hst0
  have hs0 : ∃ a v : Nat, vk_S 1 [1] [[57]] (fun _ => a) (fun _ => v) A s s.heap ∧ (Term.string "BillArchive$RunText" 50).eval args s none [] s = some (.ref a) := by
    obtain ⟨adK, adV, h1, h2⟩ := vk_Sof (args := args) (s := s) (N := 1) (tm := fun _ => Term.string "BillArchive$RunText" 50) (len := [1]) (byt := [[57]]) (A := A) (fun i hi => by obtain rfl : i = 0 := (by omega); decide) (fun i hi => hF _ (exT _ (List.mem_of_getElem? (i := 4) rfl))) (fun i hi => tx 0 _ rfl) (fun i hi => tx 1 _ rfl) (fun i hi => by obtain rfl : i = 0 := (by omega); exact tx 2 _ rfl) (fun i hi => by obtain rfl : i = 0 := (by omega); exact (fun j hj => by
      have hj : j < 1 := hj
      rcases (by omega : j = 0) with rfl
      · exact tx 3 _ rfl)) (fun i j hi hj hij => absurd (by omega : i = j) hij) hA
    refine ⟨adK 0, adV 0, ⟨fun i hi => ?_, fun i j hi hj _ => by omega⟩, h2 0 (by decide)⟩
    obtain rfl : i = 0 := (by omega)
    exact h1.1 0 (by decide)
  have hs1 : ∃ a v : Nat, vk_S 1 [4] [[53, 57, 49, 57]] (fun _ => a) (fun _ => v) A s s.heap ∧ (Term.string "BillArchive$RunText" 52).eval args s none [] s = some (.ref a) := by
    obtain ⟨adK, adV, h1, h2⟩ := vk_Sof (args := args) (s := s) (N := 1) (tm := fun _ => Term.string "BillArchive$RunText" 52) (len := [4]) (byt := [[53, 57, 49, 57]]) (A := A) (fun i hi => by obtain rfl : i = 0 := (by omega); decide) (fun i hi => hF _ (exT _ (List.mem_of_getElem? (i := 5) rfl))) (fun i hi => tx 4 _ rfl) (fun i hi => tx 5 _ rfl) (fun i hi => by obtain rfl : i = 0 := (by omega); exact tx 6 _ rfl) (fun i hi => by obtain rfl : i = 0 := (by omega); exact (fun j hj => by
      have hj : j < 4 := hj
      rcases (by omega : j = 0 ∨ j = 1 ∨ j = 2 ∨ j = 3) with rfl | rfl | rfl | rfl
      · exact tx 7 _ rfl
      · exact tx 8 _ rfl
      · exact tx 9 _ rfl
      · exact tx 10 _ rfl)) (fun i j hi hj hij => absurd (by omega : i = j) hij) hA
    refine ⟨adK 0, adV 0, ⟨fun i hi => ?_, fun i j hi hj _ => by omega⟩, h2 0 (by decide)⟩
    obtain rfl : i = 0 := (by omega)
    exact h1.1 0 (by decide)
  have hs2 : ∃ a v : Nat, vk_S 1 [2] [[53, 57]] (fun _ => a) (fun _ => v) A s s.heap ∧ (Term.string "BillArchive$RunText" 54).eval args s none [] s = some (.ref a) := by
    obtain ⟨adK, adV, h1, h2⟩ := vk_Sof (args := args) (s := s) (N := 1) (tm := fun _ => Term.string "BillArchive$RunText" 54) (len := [2]) (byt := [[53, 57]]) (A := A) (fun i hi => by obtain rfl : i = 0 := (by omega); decide) (fun i hi => hF _ (exT _ (List.mem_of_getElem? (i := 6) rfl))) (fun i hi => tx 11 _ rfl) (fun i hi => tx 12 _ rfl) (fun i hi => by obtain rfl : i = 0 := (by omega); exact tx 13 _ rfl) (fun i hi => by obtain rfl : i = 0 := (by omega); exact (fun j hj => by
      have hj : j < 2 := hj
      rcases (by omega : j = 0 ∨ j = 1) with rfl | rfl
      · exact tx 14 _ rfl
      · exact tx 15 _ rfl)) (fun i j hi hj hij => absurd (by omega : i = j) hij) hA
    refine ⟨adK 0, adV 0, ⟨fun i hi => ?_, fun i j hi hj _ => by omega⟩, h2 0 (by decide)⟩
    obtain rfl : i = 0 := (by omega)
    exact h1.1 0 (by decide)
  have hs3 : ∃ a v : Nat, vk_S 1 [3] [[57, 49, 57]] (fun _ => a) (fun _ => v) A s s.heap ∧ (Term.string "BillArchive$RunText" 56).eval args s none [] s = some (.ref a) := by
    obtain ⟨adK, adV, h1, h2⟩ := vk_Sof (args := args) (s := s) (N := 1) (tm := fun _ => Term.string "BillArchive$RunText" 56) (len := [3]) (byt := [[57, 49, 57]]) (A := A) (fun i hi => by obtain rfl : i = 0 := (by omega); decide) (fun i hi => hF _ (exT _ (List.mem_of_getElem? (i := 7) rfl))) (fun i hi => tx 16 _ rfl) (fun i hi => tx 17 _ rfl) (fun i hi => by obtain rfl : i = 0 := (by omega); exact tx 18 _ rfl) (fun i hi => by obtain rfl : i = 0 := (by omega); exact (fun j hj => by
      have hj : j < 3 := hj
      rcases (by omega : j = 0 ∨ j = 1 ∨ j = 2) with rfl | rfl | rfl
      · exact tx 19 _ rfl
      · exact tx 20 _ rfl
      · exact tx 21 _ rfl)) (fun i j hi hj hij => absurd (by omega : i = j) hij) hA
    refine ⟨adK 0, adV 0, ⟨fun i hi => ?_, fun i j hi hj _ => by omega⟩, h2 0 (by decide)⟩
    obtain rfl : i = 0 := (by omega)
    exact h1.1 0 (by decide)
  have hs4 : ∃ a v : Nat, vk_S 1 [6] [[49, 57, 53, 57, 50, 104]] (fun _ => a) (fun _ => v) A s s.heap ∧ (Term.string "BillArchive$RunText" 58).eval args s none [] s = some (.ref a) := by
    obtain ⟨adK, adV, h1, h2⟩ := vk_Sof (args := args) (s := s) (N := 1) (tm := fun _ => Term.string "BillArchive$RunText" 58) (len := [6]) (byt := [[49, 57, 53, 57, 50, 104]]) (A := A) (fun i hi => by obtain rfl : i = 0 := (by omega); decide) (fun i hi => hF _ (exT _ (List.mem_of_getElem? (i := 8) rfl))) (fun i hi => tx 22 _ rfl) (fun i hi => tx 23 _ rfl) (fun i hi => by obtain rfl : i = 0 := (by omega); exact tx 24 _ rfl) (fun i hi => by obtain rfl : i = 0 := (by omega); exact (fun j hj => by
      have hj : j < 6 := hj
      rcases (by omega : j = 0 ∨ j = 1 ∨ j = 2 ∨ j = 3 ∨ j = 4 ∨ j = 5) with rfl | rfl | rfl | rfl | rfl | rfl
      · exact tx 25 _ rfl
      · exact tx 26 _ rfl
      · exact tx 27 _ rfl
      · exact tx 28 _ rfl
      · exact tx 29 _ rfl
      · exact tx 30 _ rfl)) (fun i j hi hj hij => absurd (by omega : i = j) hij) hA
    refine ⟨adK 0, adV 0, ⟨fun i hi => ?_, fun i j hi hj _ => by omega⟩, h2 0 (by decide)⟩
    obtain rfl : i = 0 := (by omega)
    exact h1.1 0 (by decide)
  have hs5 : ∃ a v : Nat, vk_S 1 [0] [[]] (fun _ => a) (fun _ => v) A s s.heap ∧ (Term.string "BillArchive$RunText" 60).eval args s none [] s = some (.ref a) := by
    obtain ⟨adK, adV, h1, h2⟩ := vk_Sof (args := args) (s := s) (N := 1) (tm := fun _ => Term.string "BillArchive$RunText" 60) (len := [0]) (byt := [[]]) (A := A) (fun i hi => by obtain rfl : i = 0 := (by omega); decide) (fun i hi => hF _ (exT _ (List.mem_of_getElem? (i := 9) rfl))) (fun i hi => tx 31 _ rfl) (fun i hi => tx 32 _ rfl) (fun i hi => by obtain rfl : i = 0 := (by omega); exact tx 33 _ rfl) (fun i hi => by obtain rfl : i = 0 := (by omega); exact (fun j hj => absurd (show j < 0 from hj) (Nat.not_lt_zero j))) (fun i j hi hj hij => absurd (by omega : i = j) hij) hA
    refine ⟨adK 0, adV 0, ⟨fun i hi => ?_, fun i j hi hj _ => by omega⟩, h2 0 (by decide)⟩
    obtain rfl : i = 0 := (by omega)
    exact h1.1 0 (by decide)
  obtain ⟨a0, v0, hS0, hE0⟩ := hs0
  obtain rfl : a0 = ad 4 := Value.ref.inj (Option.some.inj (hE0.symm.trans (had 4 _ rfl)))
  obtain ⟨a1, v1, hS1, hE1⟩ := hs1
  obtain rfl : a1 = ad 5 := Value.ref.inj (Option.some.inj (hE1.symm.trans (had 5 _ rfl)))
  obtain ⟨a2, v2, hS2, hE2⟩ := hs2
  obtain rfl : a2 = ad 6 := Value.ref.inj (Option.some.inj (hE2.symm.trans (had 6 _ rfl)))
  obtain ⟨a3, v3, hS3, hE3⟩ := hs3
  obtain rfl : a3 = ad 7 := Value.ref.inj (Option.some.inj (hE3.symm.trans (had 7 _ rfl)))
  obtain ⟨a4, v4, hS4, hE4⟩ := hs4
  obtain rfl : a4 = ad 8 := Value.ref.inj (Option.some.inj (hE4.symm.trans (had 8 _ rfl)))
  obtain ⟨a5, v5, hS5, hE5⟩ := hs5
  obtain rfl : a5 = ad 9 := Value.ref.inj (Option.some.inj (hE5.symm.trans (had 9 _ rfl)))
  refine ⟨((fun k => [k0, k1, k2, k3, k4, k5].getD k k0, fun k => [i0, i1, i2, i3, i4, i5].getD k i0), (cI, cZ, cI), ad, fun i => [v0, v1, v2, v3, v4, v5].getD i 0), ⟨?_, ?_⟩, ⟨?_, ?_, ?_, ?_, ?_, ?_, ?_, ?_⟩, ?_⟩
  · intro k q hq
    match k, hq with
    | 0, hq => cases hq; exact hk0
    | 1, hq => cases hq; exact hk1
    | 2, hq => cases hq; exact hk2
    | 3, hq => cases hq; exact hk3
    | 4, hq => cases hq; exact hk4
    | 5, hq => cases hq; exact hk5
    | k + 6, hq => simp [vwCl] at hq
  · intro k q hq
    match k, hq with
    | 0, hq => cases hq; exact ⟨fun n z => ⟨fun k h => (by cases h), kkI, hbI, cpI, hcI⟩, haI⟩
    | 1, hq => cases hq; exact ⟨fun n z => ⟨fun k h => (by cases h), kkZ, hbZ, cpZ, hcZ⟩, haZ⟩
    | k + 2, hq => simp [tyE] at hq
  · exact fun q hq => va_Nw.of rfl (htt _ (nestT q hq))
  · exact fun i q hq => vk_R.of (htt _ (strT q (List.mem_of_getElem? hq))) (had i q hq)
  · exact vx_Zqof (htt _ w_1_202) (ht _ w_1_7) (sw 0 _ rfl) hA
  · exact vx_Zqof (htt _ w_1_204) (ht _ w_1_7) (sw 1 _ rfl) hA
  · intro i hi
    match i, hi with
    | 0, _ => exact hS0
    | 1, _ => exact hS1
    | 2, _ => exact hS2
    | 3, _ => exact hS3
    | 4, _ => exact hS4
    | 5, _ => exact hS5
    | i + 6, hi => exact absurd (show i + 6 < 6 from hi) (by omega)
  · exact va_Zof (htt _ w_2_143) (ht _ w_1_12) (va_eqt (sw 2 _ rfl)) hA
  · exact va_Zqof (htt _ w_2_159) (ht _ w_1_14) (sw 3 _ rfl) hA
  · exact fun w hw => va_Nw.of (thL_ot w hw) (htt _ (thT w hw))
  · exact ⟨va_Nc.of (sw 4 _ rfl), va_Nc.of (sw 5 _ rfl), va_Nc.of (sw 6 _ rfl)⟩
