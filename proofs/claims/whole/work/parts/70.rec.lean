/-! the records -/
def mPut (f : Nat → Nat) (i j : Nat) : Nat → Nat := um (um (um f (46 + 3 * j) (f (46 + 3 * i))) (46 + 3 * j + 1) (f (46 + 3 * i + 1))) (46 + 3 * j + 2) (f (46 + 3 * i + 2))
def mLoop (s pl gm p : Nat) : Nat → (Nat → Nat) → Nat → Nat → Nat
  | 0, f, _ => f
  | n + 1, f, k => if k ≤ p then um (um (um f (46 + 3 * p) s) (46 + 3 * p + 1) pl) (46 + 3 * p + 2) gm else mLoop s pl gm p n (mPut f (k - 1) k) (k - 1)
def mPos (a : Nat → Nat) (s : Nat) : Nat → Nat → Nat
  | 0, p => p
  | n + 1, p => if p = 0 then 0 else if s ≤ a (46 + 3 * (p - 1)) then p else mPos a s n (p - 1)
def mEnter (a : Nat → Nat) (k : Nat) : Nat → Nat :=
  if mPos a (a (30 + k)) 6 (a 13) = 5 then a
  else mLoop (a (30 + k)) k (a 1) (mPos a (a (30 + k)) 6 (a 13)) 5 (um a 13 (min (a 13 + 1) 5)) (min (a 13 + 1) 5 - 1)
theorem mPos_le (a : Nat → Nat) (s : Nat) : ∀ (n p : Nat), mPos a s n p ≤ p
  | 0, p => Nat.le_refl p
  | n + 1, p => by
    unfold mPos
    split
    · omega
    · split
      · omega
      · have := mPos_le a s n (p - 1); omega
theorem mPos_sp (a : Nat → Nat) (s : Nat) : ∀ (n p : Nat), p < n → (mPos a s n p = 0 ∨ s ≤ a (46 + 3 * (mPos a s n p - 1))) ∧ ∀ i, mPos a s n p ≤ i → i < p → a (46 + 3 * i) < s
  | 0, p, h => by omega
  | n + 1, p, h => by
    unfold mPos
    by_cases h0 : p = 0
    · rw [if_pos h0]
      exact ⟨Or.inl rfl, fun i _ h => by omega⟩
    · rw [if_neg h0]
      by_cases h1 : s ≤ a (46 + 3 * (p - 1))
      · rw [if_pos h1]
        exact ⟨Or.inr h1, fun i _ h => by omega⟩
      · rw [if_neg h1]
        obtain ⟨q1, q2⟩ := mPos_sp a s n (p - 1) (by omega)
        refine ⟨q1, fun i hi hp => ?_⟩
        by_cases e : i = p - 1
        · subst e; omega
        · exact q2 i hi (by omega)
theorem mLoop_at (s pl gm p : Nat) : ∀ (n : Nat) (f : Nat → Nat) (k : Nat), p ≤ k → k - p < n → ∀ j, mLoop s pl gm p n f k j = if j = 46 + 3 * p then s else if j = 46 + 3 * p + 1 then pl else if j = 46 + 3 * p + 2 then gm else if 49 + 3 * p ≤ j ∧ j < 49 + 3 * k then f (j - 3) else f j
  | 0, f, k, _, h, j => by omega
  | n + 1, f, k, hp, h, j => by
    unfold mLoop
    by_cases hk : k ≤ p
    · rw [if_pos hk]
      unfold um
      have e : k = p := by omega
      subst e
      repeat' split
      all_goals (first | rfl | omega)
    · rw [if_neg hk, mLoop_at s pl gm p n _ (k - 1) (by omega) (by omega) j]
      by_cases h1 : j = 46 + 3 * p
      · rw [if_pos h1, if_pos h1]
      rw [if_neg h1, if_neg h1]
      by_cases h2 : j = 46 + 3 * p + 1
      · rw [if_pos h2, if_pos h2]
      rw [if_neg h2, if_neg h2]
      by_cases h3 : j = 46 + 3 * p + 2
      · rw [if_pos h3, if_pos h3]
      rw [if_neg h3, if_neg h3]
      unfold mPut
      by_cases h4 : 49 + 3 * p ≤ j ∧ j < 49 + 3 * (k - 1)
      · rw [if_pos h4, if_pos (by omega), um_n (by omega), um_n (by omega), um_n (by omega)]
      · rw [if_neg h4]
        by_cases h5 : 49 + 3 * p ≤ j ∧ j < 49 + 3 * k
        · rw [if_pos h5]
          obtain e | e | e : j = 46 + 3 * k ∨ j = 46 + 3 * k + 1 ∨ j = 46 + 3 * k + 2 := by omega
          · rw [um_n (by omega), um_n (by omega), e, um_s]
            congr 1; omega
          · rw [um_n (by omega), e, um_s]
            congr 1; omega
          · rw [e, um_s]
            congr 1; omega
        · rw [if_neg h5, um_n (by omega), um_n (by omega), um_n (by omega)]
theorem mEnter_k {a : Nat → Nat} {k j : Nat} (h13 : a 13 ≤ 5) (hj : j < 46 ∧ j ≠ 13) : mEnter a k j = a j := by
  unfold mEnter
  split
  · rfl
  · have := mPos_le a (a (30 + k)) 6 (a 13)
    rw [mLoop_at _ _ _ _ _ _ _ (by omega) (by omega), if_neg (by omega), if_neg (by omega), if_neg (by omega), if_neg (by omega), um_n (by omega)]
theorem mEnter_13 {a : Nat → Nat} {k : Nat} (h13 : a 13 ≤ 5) : mEnter a k 13 ≤ 5 := by
  unfold mEnter
  split
  · exact h13
  · have := mPos_le a (a (30 + k)) 6 (a 13)
    rw [mLoop_at _ _ _ _ _ _ _ (by omega) (by omega), if_neg (by omega), if_neg (by omega), if_neg (by omega), if_neg (by omega), um_s]
    omega
/-- what stands in the records while a game is entered: players below k of this game -/
def zRk (b : Nat) (a : Nat → Nat) (k : Nat) : Prop :=
  (∀ i, i < a 13 → a (46 + 3 * i) ≤ 4000 * b ∧ a (46 + 3 * i + 1) ≤ 3 ∧ (a (46 + 3 * i + 2) < a 1 ∨ a (46 + 3 * i + 2) = a 1 ∧ a (46 + 3 * i + 1) < k)) ∧
  (∀ i, i + 1 < a 13 → a (46 + 3 * (i + 1)) < a (46 + 3 * i) ∨ a (46 + 3 * i) = a (46 + 3 * (i + 1)) ∧ (a (46 + 3 * i + 2) < a (46 + 3 * (i + 1) + 2) ∨ a (46 + 3 * i + 2) = a (46 + 3 * (i + 1) + 2) ∧ a (46 + 3 * i + 1) < a (46 + 3 * (i + 1) + 1)))
theorem mEnter_R {b : Nat} {a : Nat → Nat} {k : Nat} (h13 : a 13 ≤ 5) (hs : a (30 + k) ≤ 4000 * b) (hk : k ≤ 3) (h : zRk b a k) : zRk b (mEnter a k) (k + 1) := by
  obtain ⟨h1, h2⟩ := h
  have e1 : mEnter a k 1 = a 1 := mEnter_k h13 (by omega)
  by_cases h5 : mPos a (a (30 + k)) 6 (a 13) = 5
  · have e : mEnter a k = a := if_pos h5
    rw [e]
    exact ⟨fun i hi => by have := h1 i hi; omega, h2⟩
  · have hle := mPos_le a (a (30 + k)) 6 (a 13)
    obtain ⟨q1, q2⟩ := mPos_sp a (a (30 + k)) 6 (a 13) (by omega)
    have L : ∀ j, mEnter a k j = if j = 46 + 3 * mPos a (a (30 + k)) 6 (a 13) then a (30 + k) else if j = 46 + 3 * mPos a (a (30 + k)) 6 (a 13) + 1 then k else if j = 46 + 3 * mPos a (a (30 + k)) 6 (a 13) + 2 then a 1 else if 49 + 3 * mPos a (a (30 + k)) 6 (a 13) ≤ j ∧ j < 49 + 3 * (min (a 13 + 1) 5 - 1) then um a 13 (min (a 13 + 1) 5) (j - 3) else um a 13 (min (a 13 + 1) 5) j := by
      intro j
      unfold mEnter
      rw [if_neg h5]
      exact mLoop_at _ _ _ _ _ _ _ (by omega) (by omega) j
    generalize mPos a (a (30 + k)) 6 (a 13) = p at *
    have L13 : mEnter a k 13 = min (a 13 + 1) 5 := by
      rw [L, if_neg (by omega), if_neg (by omega), if_neg (by omega), if_neg (by omega), um_s]
    have Lp : ∀ e, e < 3 → mEnter a k (46 + 3 * p + e) = if e = 0 then a (30 + k) else if e = 1 then k else a 1 := by
      intro e he
      rw [L]
      obtain rfl | rfl | rfl : e = 0 ∨ e = 1 ∨ e = 2 := by omega
      · rw [if_pos (by omega)]; rfl
      · rw [if_neg (by omega), if_pos (by omega)]; rfl
      · rw [if_neg (by omega), if_neg (by omega), if_pos (by omega)]; rfl
    have Llo : ∀ i e, i < p → e < 3 → mEnter a k (46 + 3 * i + e) = a (46 + 3 * i + e) := by
      intro i e hi he
      rw [L, if_neg (by omega), if_neg (by omega), if_neg (by omega), if_neg (by omega), um_n (by omega)]
    have Lhi : ∀ i e, p < i → i < min (a 13 + 1) 5 → e < 3 → mEnter a k (46 + 3 * i + e) = a (46 + 3 * (i - 1) + e) := by
      intro i e hi hi2 he
      rw [L, if_neg (by omega), if_neg (by omega), if_neg (by omega), if_pos (by omega), um_n (by omega)]
      congr 1; omega
    have Lp0 := Lp 0 (by omega)
    have Lp1 := Lp 1 (by omega)
    have Lp2 := Lp 2 (by omega)
    simp only [if_true, Nat.add_zero, show ¬ (1 : Nat) = 0 from by decide, show ¬ (2 : Nat) = 0 from by decide, show ¬ (2 : Nat) = 1 from by decide, if_false] at Lp0 Lp1 Lp2
    unfold zRk
    rw [L13, e1]
    constructor
    · intro i hi
      obtain hlt | rfl | hgt : i < p ∨ i = p ∨ p < i := by omega
      · have l0 := Llo i 0 hlt (by omega)
        rw [Nat.add_zero] at l0
        rw [l0, Llo i 1 hlt (by omega), Llo i 2 hlt (by omega)]
        have := h1 i (by omega); omega
      · rw [Lp0, Lp1, Lp2]; omega
      · have l0 := Lhi i 0 hgt hi (by omega)
        rw [Nat.add_zero, Nat.add_zero] at l0
        rw [l0, Lhi i 1 hgt hi (by omega), Lhi i 2 hgt hi (by omega)]
        have := h1 (i - 1) (by omega); omega
    · intro i hi
      obtain hlt | hpe | rfl | hgt : i + 1 < p ∨ i + 1 = p ∨ i = p ∨ p < i := by omega
      · have l0 := Llo i 0 (by omega) (by omega)
        have m0 := Llo (i + 1) 0 (by omega) (by omega)
        rw [Nat.add_zero] at l0 m0
        rw [l0, m0, Llo i 1 (by omega) (by omega), Llo i 2 (by omega) (by omega), Llo (i + 1) 1 (by omega) (by omega), Llo (i + 1) 2 (by omega) (by omega)]
        exact h2 i (by omega)
      · have l0 := Llo i 0 (by omega) (by omega)
        rw [Nat.add_zero] at l0
        rw [l0, Llo i 1 (by omega) (by omega), Llo i 2 (by omega) (by omega), hpe, Lp0, Lp1, Lp2]
        have := h1 i (by omega)
        have e : p - 1 = i := by omega
        rw [e] at q1
        omega
      · have m0 := Lhi (i + 1) 0 (by omega) hi (by omega)
        have m1 := Lhi (i + 1) 1 (by omega) hi (by omega)
        have m2 := Lhi (i + 1) 2 (by omega) hi (by omega)
        simp only [Nat.add_zero, Nat.add_sub_cancel] at m0 m1 m2
        rw [m0, m1, m2, Lp0, Lp1, Lp2]
        have := q2 i (by omega) (by omega)
        omega
      · have l0 := Lhi i 0 (by omega) (by omega) (by omega)
        have m0 := Lhi (i + 1) 0 (by omega) hi (by omega)
        rw [Nat.add_zero, Nat.add_zero] at l0 m0
        rw [l0, m0, Lhi i 1 (by omega) (by omega) (by omega), Lhi i 2 (by omega) (by omega) (by omega), Lhi (i + 1) 1 (by omega) hi (by omega), Lhi (i + 1) 2 (by omega) hi (by omega)]
        have := h2 (i - 1) (by omega)
        rw [show i - 1 + 1 = i from by omega] at this
        rw [Nat.add_sub_cancel]
        exact this
