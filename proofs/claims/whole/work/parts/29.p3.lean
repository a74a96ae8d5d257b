/-! what the reference's words and digits leave -/
theorem pick_0 (a b c d e f : Int32) : n_X9_pick (nI 0) a b c d e f = a := by unfold n_X9_pick; exact if_pos rfl
theorem pick_1 (a b c d e f : Int32) : n_X9_pick (nI 1) a b c d e f = b := by unfold n_X9_pick; rw [if_neg (by decide)]; exact if_pos rfl
theorem letter_ne (a k : Nat) (hk : k < 2) : ¬ n_X9_letter (nI a) (nI k) = 0 := by
  have h : k = 0 ∨ k = 1 := by omega
  unfold n_X9_letter
  rcases h with rfl | rfl
  · simp only [pick_0]
    repeat' split
    all_goals decide
  · simp only [pick_1]
    repeat' split
    all_goals decide
/-- where a word's end may stand -/
def wd_ok (v8 v9 : Int32) (o : Int32 × Int32 × Int32) : Prop := ∃ q : Nat, o.2.1 = nI q ∧ zn v9 ≤ q ∧ q ≤ zn v8 ∧ (o.2.2 = 0 ∧ zn v9 + 2 ≤ q ∨ o.2.2 = 1)
theorem wd_2 (v8 v9 : Int32) (gi : Nat → Int32) (w a : Nat) (hw : zn v9 + w ≤ zn v8) (h8 : zle v8 60) (k0 : Nat → Nat → Int32 × Int32 × Int32) (hk : ∀ w, zn v9 + w ≤ zn v8 → wd_ok v8 v9 (k0 w (a + 1))) : ∀ (n k : Nat), zn v9 + k ≤ zn v8 → zn v8 - (zn v9 + k) < n → wd_ok v8 v9 (n_X9_word_L2 v8 v9 gi w a k0 n k) := by
  have h8b := h8.2
  intro n
  induction n with
  | zero => intro k h1 h2; omega
  | succ n ih =>
    intro k h1 h2
    have h0 : n_X9_letter (nI a) (nI k) = 0 → 2 ≤ k := fun z => Nat.le_of_not_lt (fun q => letter_ne a k q z)
    have hin : ¬ v8 ≤ nI (zn v9 + k) → zn v9 + k < zn v8 := fun c => Nat.lt_of_not_le (fun z => c ((zi_le_iff h8.1 (zi_i _) (by omega) (by omega)).mpr z))
    simp only [n_X9_word_L2]
    repeat' split
    all_goals first
      | exact hk _ hw
      | exact hk _ h1
      | exact ih _ (by have := hin (by assumption); omega) (by have := hin (by assumption); omega)
      | exact ⟨_, rfl, by omega, by omega, Or.inl ⟨rfl, by have := h0 (by assumption); omega⟩⟩
theorem wd_1 (v8 v9 : Int32) (gi : Nat → Int32) (h8 : zle v8 60) : ∀ (n w a : Nat), a ≤ 8 → zn v9 + w ≤ zn v8 → 8 - a < n → wd_ok v8 v9 (n_X9_word_L1 v8 v9 gi n w a) := by
  intro n
  have h8b := h8.2
  induction n with
  | zero => intro w a ha h1 h2; omega
  | succ n ih =>
    intro w a ha h1 h2
    simp only [n_X9_word_L1]
    split
    · exact ⟨_, rfl, by omega, by omega, Or.inr rfl⟩
    · rename_i c
      have ha8 : a < 8 := Nat.lt_of_not_le (fun z => c ((zi_le_iff (rfl : zi 8 8) (zi_i a) (by decide) (by omega)).mpr z))
      exact wd_2 v8 v9 gi w a h1 h8 _ (fun w hw => ih w (a + 1) (by omega) hw (by omega)) 61 0 (by omega) (by omega)
theorem wd (v8 v9 : Int32) (gi : Nat → Int32) (h8 : zle v8 60) (h : zn v9 ≤ zn v8) : wd_ok v8 v9 (n_X9_word v8 v9 gi) := wd_1 v8 v9 gi h8 9 0 0 (by omega) (by omega) (by omega)
theorem wd_zn {v8 v9 : Int32} {o : Int32 × Int32 × Int32} (h : wd_ok v8 v9 o) (h8 : zle v8 60) : zle o.2.1 60 ∧ zn v9 ≤ zn o.2.1 ∧ zn o.2.1 ≤ zn v8 ∧ (o.2.2 = 0 ∧ zn v9 + 2 ≤ zn o.2.1 ∨ o.2.2 = 1) := by
  obtain ⟨q, h1, h2, h3, h4⟩ := h
  have h8b := h8.2
  have e : zn o.2.1 = q := by rw [h1]; exact nI_clamp (by omega)
  exact ⟨zle_of h1 (by omega) (by decide), by omega, by omega, by rw [e]; exact h4⟩
theorem zword_at (v8 v9 : Int32) (gi : Nat → Int32) (h9 : zle v9 60) (h8 : zle v8 60) (h : zn v9 ≤ zn v8) : zle (n_X9_word v8 v9 gi).2.1 60 := (wd_zn (wd v8 v9 gi h8 h) h8).1
theorem zword_w (v8 v9 : Int32) (gi : Nat → Int32) (h9 : zle v9 60) (h8 : zle v8 60) (h : zn v9 ≤ zn v8) : (n_X9_word v8 v9 gi).2.2 = 0 ∨ (n_X9_word v8 v9 gi).2.2 = 1 := by
  rcases (wd_zn (wd v8 v9 gi h8 h) h8).2.2.2 with x | x
  · exact Or.inl x.1
  · exact Or.inr x
theorem zword_f (v8 v9 : Int32) (gi : Nat → Int32) (h9 : zle v9 60) (h8 : zle v8 60) (h : zn v9 ≤ zn v8) : zn v9 ≤ zn (n_X9_word v8 v9 gi).2.1 ∧ zn (n_X9_word v8 v9 gi).2.1 ≤ zn v8 := ⟨(wd_zn (wd v8 v9 gi h8 h) h8).2.1, (wd_zn (wd v8 v9 gi h8 h) h8).2.2.1⟩
/-- where a digit's end may stand -/
theorem dg0 (v8 v9 : Int32) (gi : Nat → Int32) (h9 : zle v9 60) (h8 : zle v8 60) (h : zn v9 ≤ zn v8) : ∃ q : Nat, (n_X9_digit_0 v8 v9 gi).2.1 = nI q ∧ zn v9 ≤ q ∧ q ≤ zn v8 ∧ ((n_X9_digit_0 v8 v9 gi).2.2 = 0 ∨ (n_X9_digit_0 v8 v9 gi).2.2 = 1) := by
  have h8b := h8.2
  have h9b := h9.2
  simp only [n_X9_digit_0]
  split
  · rename_i c1
    have a1 := mk0_lt h9.1 h8.1 (by omega) (by omega) c1 (by decide)
    split
    · exact ⟨_, rfl, by omega, by omega, Or.inr rfl⟩
    · rename_i c2
      have a2 := mk0_lt (a := zn v9 + 1) (zi_i _) h8.1 (by omega) (by omega) rfl (fun z => c2 (by rw [z]; decide))
      exact ⟨_, rfl, by omega, by omega, Or.inl rfl⟩
  · split
    · exact ⟨_, rfl, by omega, by omega, Or.inr rfl⟩
    · exact ⟨_, rfl, by omega, by omega, Or.inr rfl⟩
theorem dg0_at (v8 v9 : Int32) (gi : Nat → Int32) (h9 : zle v9 60) (h8 : zle v8 60) (h : zn v9 ≤ zn v8) : zle (n_X9_digit_0 v8 v9 gi).2.1 60 := by
  obtain ⟨q, h1, h2, h3, h4⟩ := dg0 v8 v9 gi h9 h8 h
  have h8b := h8.2
  exact zle_of h1 (by omega) (by decide)
theorem dg0_w (v8 v9 : Int32) (gi : Nat → Int32) (h9 : zle v9 60) (h8 : zle v8 60) (h : zn v9 ≤ zn v8) : (n_X9_digit_0 v8 v9 gi).2.2 = 0 ∨ (n_X9_digit_0 v8 v9 gi).2.2 = 1 := (dg0 v8 v9 gi h9 h8 h).choose_spec.2.2.2
theorem dg0_f (v8 v9 : Int32) (gi : Nat → Int32) (h9 : zle v9 60) (h8 : zle v8 60) (h : zn v9 ≤ zn v8) : zn v9 ≤ zn (n_X9_digit_0 v8 v9 gi).2.1 ∧ zn (n_X9_digit_0 v8 v9 gi).2.1 ≤ zn v8 := by
  obtain ⟨q, h1, h2, h3, h4⟩ := dg0 v8 v9 gi h9 h8 h
  have h8b := h8.2
  have e : zn (n_X9_digit_0 v8 v9 gi).2.1 = q := by rw [h1]; exact nI_clamp (by omega)
  omega
