theorem bP_01 {d : Nat} (h : d ≤ 1) : nI d = bP (d = 1) := by
  by_cases e : d = 1
  · rw [bP, if_pos e, e]
  · rw [bP, if_neg e]; exact congrArg nI (by omega)
