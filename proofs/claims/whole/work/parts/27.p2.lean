theorem mk0_lt {v8 v9 y : Int32} {gi : Nat → Int32} {a b : Nat} (h1 : zi v9 a) (h2 : zi v8 b) (ha : a < 2 ^ 31) (hb : b < 2 ^ 31) (h : n_X9_mark_0 v8 v9 gi = y) (hy : ¬ y = (-1)) : a < b := by
  unfold n_X9_mark_0 at h
  split at h
  · exact absurd h.symm hy
  · rename_i c
    exact Nat.lt_of_not_le (fun z => c ((zi_le_iff h2 h1 hb ha).mpr z))
