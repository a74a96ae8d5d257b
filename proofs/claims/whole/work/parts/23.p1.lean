/-! what the reference's enters keeps -/
theorem en5_k (g : Nat → Int32) (x : Int32) (i p : Nat) {j : Nat} (hj : j < 46) : ∀ (n : Nat) (f : Nat → Int32) (k : Nat), n_X9_enters_L5 g x i p n f k j = f j := by
  intro n
  induction n with
  | zero => intro f k; rfl
  | succ n ih =>
    intro f k
    simp only [n_X9_enters_L5]
    split
    · simp (disch := omega) only [pk_un]
    · rw [ih]
      exact k_X9_putsRecord _ _ _ j (by omega)
theorem en1_k (g : Nat → Int32) (x : Int32) (i : Nat) {j : Nat} (hj : j < 46) (h13 : j ≠ 13) : ∀ (n p : Nat), n_X9_enters_L1 g x i n p j = g j := by
  intro n
  induction n with
  | zero => intro p; rfl
  | succ n ih =>
    intro p
    simp only [n_X9_enters_L1]
    repeat' split
    all_goals first | rfl | exact ih _ | exact en5_k g x i p hj _ _ _ | (rw [en5_k g x i p hj]; exact pk_un h13)
theorem k_X9_enters (g : Nat → Int32) (x : Int32) (i : Nat) (j : Nat) (hj : j < 46 ∧ j ≠ 13) : n_X9_enters g x i j = g j := en1_k g x i hj.1 hj.2 _ _
theorem en1_13 (g : Nat → Int32) (x : Int32) (i : Nat) (h : zle (g 13) 5) : ∀ (n p : Nat), zle (n_X9_enters_L1 g x i n p 13) 5 := by
  intro n
  have hu : ¬ (5 : Int32) ≤ g 13 → zle (upd g 13 (nI (zn (g 13) + 1)) 13) 5 := by
    intro c
    rw [pk_us]
    have hb := h.2
    exact zle_of (zi_i _) (by
      have : ¬ 5 ≤ zn (g 13) := fun z => c (zi_le (rfl : zi 5 5) h.1 z (by omega))
      omega) (by decide)
  induction n with
  | zero => intro p; exact h
  | succ n ih =>
    intro p
    simp only [n_X9_enters_L1]
    repeat' split
    all_goals first | exact h | exact ih _ | (rw [en5_k g x i p (by decide)]; exact h) | (rw [en5_k g x i p (by decide)]; exact hu (by assumption))
theorem v_X9_enters (g : Nat → Int32) (x : Int32) (i : Nat) (h : zle (g 13) 5) : zle (n_X9_enters g x i 13) 5 := en1_13 g x i h _ _
