theorem zpa_l (v7 : Int32) (gi : Nat → Int32) (h7 : zle v7 60) : ∀ (n : Nat) (f3 f4 : Nat → Int32) (v5 v6 v : Int32), zle v5 60 → zle v6 31 → zn v5 ≤ zn v7 → (v = 0 → 2 * zn v6 ≤ zn v5) → zle (n_X9_parse_L1 v7 gi n f3 f4 v5 v6 v).2.2.2.1 31 := by
  intro n
  have h7b := h7.2
  induction n with
  | zero => intro f3 f4 v5 v6 v h5 h6 h1 h2; exact h6
  | succ n ih =>
    intro f3 f4 v5 v6 v h5 h6 h1 h2
    have h5b := h5.2
    simp only [n_X9_parse_L1]
    split
    · rename_i c1
      split
      · rename_i c2
        have a1 := mk0_lt h5.1 h7.1 (by omega) (by omega) c2 (by decide)
        have hz : zn (nI (zn v5 + 1)) = zn v5 + 1 := zn_of (zi_i _) (by omega)
        have h2' := h2 c1
        obtain ⟨q1, q2, q3, q4, q5, q6, q7⟩ := zcm v7 (nI (zn v5 + 1)) v6 gi f3 f4 (zle_of (zi_i _) (by omega) (by decide)) h7 (by omega) h6
        refine ih _ _ _ _ _ q1 (zle_of q5.1 (by omega) (by decide)) q3 (fun z => ?_)
        have := q7 z
        omega
      · split <;> exact h6
    · split <;> exact h6
theorem zpa_c (v7 : Int32) (gi gk gn : Nat → Int32) (h7 : zle v7 60) : zle (n_X9_parse v7 gi gk gn).2.2.2.1 31 := by
  have h0 : zn (0 : Int32) = 0 := zn_of (zlit 0) (by decide)
  have h7b := h7.2
  obtain ⟨q1, q2, q3, q4, q5, q6, q7⟩ := zcm v7 0 0 gi gk gn (zle_of (zlit 0) (by decide) (by decide)) h7 (by omega) (zle_of (zlit 0) (by decide) (by decide))
  refine zpa_l v7 gi h7 _ _ _ _ _ _ q1 (zle_of q5.1 (by omega) (by decide)) q3 (fun z => ?_)
  have := q7 z
  omega
