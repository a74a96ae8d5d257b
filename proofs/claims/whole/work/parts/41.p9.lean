theorem dg8 {w : Nat} (h : w ≤ 99999999) : sb_dg w ≤ 8 := by
  unfold sb_dg
  repeat' split
  all_goals omega
theorem dg1 {w : Nat} (h : w ≤ 3) : sb_dg w = 1 := by
  unfold sb_dg
  rw [if_pos (by omega)]
