theorem zcm (v8 v9 v10 : Int32) (gi gk gn : Nat → Int32) (h9 : zle v9 60) (h8 : zle v8 60) (h : zn v9 ≤ zn v8) (h10 : zle v10 31) : zle (n_X9_command v8 v9 v10 gi gk gn).1 60 ∧ zn v9 ≤ zn (n_X9_command v8 v9 v10 gi gk gn).1 ∧ zn (n_X9_command v8 v9 v10 gi gk gn).1 ≤ zn v8 ∧ ((n_X9_command v8 v9 v10 gi gk gn).2.2.1 = 0 ∨ (n_X9_command v8 v9 v10 gi gk gn).2.2.1 = 1) ∧ zle (n_X9_command v8 v9 v10 gi gk gn).2.1 32 ∧ zn (n_X9_command v8 v9 v10 gi gk gn).2.1 ≤ zn v10 + 1 ∧ ((n_X9_command v8 v9 v10 gi gk gn).2.2.1 = 0 → zn v9 + 2 ≤ zn (n_X9_command v8 v9 v10 gi gk gn).1 ∧ zn (n_X9_command v8 v9 v10 gi gk gn).2.1 = zn v10 + 1) := by
  obtain ⟨w1, w2, w3, w4⟩ := wd_zn (wd v8 v9 gi h8 h) h8
  have d1 := dg0_at v8 (n_X9_word v8 v9 gi).2.1 gi w1 h8 w3
  have d2 := dg0_w v8 (n_X9_word v8 v9 gi).2.1 gi w1 h8 w3
  have d3 := dg0_f v8 (n_X9_word v8 v9 gi).2.1 gi w1 h8 w3
  have e1 : n_X9_digit_1 (n_X9_word v8 v9 gi).2.1 = nI (zn (n_X9_word v8 v9 gi).2.1 + 0) := by
    simp only [n_X9_digit_1]
    split <;> rfl
  have w1b := w1.2
  have hb := h10.2
  have z1 : zle (nI (zn v10 + 1)) 32 := zle_of (zi_i _) (by omega) (by decide)
  have z2 : zn (nI (zn v10 + 1)) = zn v10 + 1 := zn_of (zi_i _) (by omega)
  have z3 : zle v10 32 := zle_up h10 (by decide)
  have z4 : zle (nI (zn (n_X9_word v8 v9 gi).2.1 + 0)) 60 := zle_of (zi_i _) (by omega) (by decide)
  have z5 : zn (nI (zn (n_X9_word v8 v9 gi).2.1 + 0)) = zn (n_X9_word v8 v9 gi).2.1 + 0 := zn_of (zi_i _) (by omega)
  simp only [n_X9_command]
  split
  · rename_i c1
    have w5 : zn v9 + 2 ≤ zn (n_X9_word v8 v9 gi).2.1 := by
      rcases w4 with q | q
      · exact q.2
      · rw [c1] at q; exact absurd q (by decide)
    split
    · dsimp only; exact ⟨w1, by omega, by omega, Or.inl rfl, z1, by omega, fun _ => ⟨by omega, by omega⟩⟩
    · split
      · dsimp only; exact ⟨d1, by omega, by omega, d2, z1, by omega, fun _ => ⟨by omega, by omega⟩⟩
      · rename_i c3
        dsimp only; exact ⟨d1, by omega, by omega, d2, z3, by omega, fun q => absurd q c3⟩
  · split
    · dsimp only; exact ⟨w1, by omega, by omega, Or.inr rfl, z3, by omega, fun q => absurd q (by decide)⟩
    · rw [e1]; dsimp only
      exact ⟨z4, by omega, by omega, Or.inr rfl, z3, by omega, fun q => absurd q (by decide)⟩
theorem zcm_at (v8 v9 v10 : Int32) (gi gk gn : Nat → Int32) (h9 : zle v9 60) (h8 : zle v8 60) (h : zn v9 ≤ zn v8) (h10 : zle v10 31) : zle (n_X9_command v8 v9 v10 gi gk gn).1 60 := (zcm v8 v9 v10 gi gk gn h9 h8 h h10).1
theorem zcm_w (v8 v9 v10 : Int32) (gi gk gn : Nat → Int32) (h9 : zle v9 60) (h8 : zle v8 60) (h : zn v9 ≤ zn v8) (h10 : zle v10 31) : (n_X9_command v8 v9 v10 gi gk gn).2.2.1 = 0 ∨ (n_X9_command v8 v9 v10 gi gk gn).2.2.1 = 1 := (zcm v8 v9 v10 gi gk gn h9 h8 h h10).2.2.2.1
theorem zcm_c (v8 v9 v10 : Int32) (gi gk gn : Nat → Int32) (h9 : zle v9 60) (h8 : zle v8 60) (h : zn v9 ≤ zn v8) (h10 : zle v10 31) : zle (n_X9_command v8 v9 v10 gi gk gn).2.1 32 := (zcm v8 v9 v10 gi gk gn h9 h8 h h10).2.2.2.2.1
theorem zcm_f (v8 v9 v10 : Int32) (gi gk gn : Nat → Int32) (h9 : zle v9 60) (h8 : zle v8 60) (h : zn v9 ≤ zn v8) (h10 : zle v10 31) : zn v9 ≤ zn (n_X9_command v8 v9 v10 gi gk gn).1 ∧ zn (n_X9_command v8 v9 v10 gi gk gn).1 ≤ zn v8 ∧ zn (n_X9_command v8 v9 v10 gi gk gn).2.1 ≤ zn v10 + 1 ∧ ((n_X9_command v8 v9 v10 gi gk gn).2.2.1 = 0 → zn v9 + 2 ≤ zn (n_X9_command v8 v9 v10 gi gk gn).1 ∧ zn (n_X9_command v8 v9 v10 gi gk gn).2.1 = zn v10 + 1) := by
  have q := zcm v8 v9 v10 gi gk gn h9 h8 h h10
  exact ⟨q.2.1, q.2.2.1, q.2.2.2.2.2.1, q.2.2.2.2.2.2⟩
