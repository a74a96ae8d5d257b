theorem v_X4_enter_L3 {r1 x y z : Int32} {p : Nat} (h : zle r1 5) : ∀ (n : Nat) (f g k0 : Nat → Int32) (k : Nat), zle (n_X4_enter_L3 r1 x y z p n f g k0 k).1 5 := by
  have e : zle (if 5 < (nI ((zn r1) + 1)) then (5 : Int32) else nI ((zn r1) + 1)) 5 := by
    have h2 := h.2
    exact zle_of (zi_min (zi_i _) (zlit 5) (by omega) (by decide)) (by omega) (by decide)
  intro n
  induction n with
  | zero => intro f g k0 k; exact e
  | succ n ih =>
    intro f g k0 k
    rw [n_X4_enter_L3]
    split
    · exact e
    · exact ih _ _ _ _
theorem v_X4_enter_L1 {r1 x y z : Int32} {a b c : Nat → Int32} (h : zle r1 5) : ∀ (n p : Nat), zle (n_X4_enter_L1 r1 a b c x y z n p).1 5 := by
  intro n
  induction n with
  | zero => intro p; exact h
  | succ n ih =>
    intro p
    rw [n_X4_enter_L1]
    split
    · split
      · exact v_X4_enter_L3 h _ _ _ _ _
      · exact h
    · split
      · split
        · exact v_X4_enter_L3 h _ _ _ _ _
        · exact h
      · exact ih _
theorem v_X4_enter (r1 : Int32) (a b c : Nat → Int32) (x y z : Int32) (h : zle r1 5) : zle (n_X4_enter r1 a b c x y z).1 5 := v_X4_enter_L1 h _ _
