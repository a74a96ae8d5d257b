/-! the class's ring of nine slots against the reference's eight states -/
def zRg (kf n : Nat) (hs cs : Nat → Nat → Nat) : Prop := ∀ j, j < n → cs ((kf + 9 - n + j) % 9) = hs j
def zCs (kf : Nat) (b : Nat → Nat) (cs : Nat → Nat → Nat) : Nat → Nat → Nat := fun i => if i = kf then b else cs i
theorem r_hold {kf n : Nat} (hk : kf ≤ 8) (hn : n ≤ 8) {hs cs : Nat → Nat → Nat} (b : Nat → Nat) (h : zRg kf n hs cs) : zRg kf n hs (zCs kf b cs) := by
  intro j hj
  rw [← h j hj]
  unfold zCs
  rw [if_neg (by omega)]
theorem r_commit {kf n : Nat} (hk : kf ≤ 8) (hn : n ≤ 8) {hs cs : Nat → Nat → Nat} (b : Nat → Nat) (h : zRg kf n hs cs) : zRg ((kf + 1) % 9) (min (n + 1) 8) (zHn n b hs) (zCs kf b cs) := by
  intro j hj
  unfold zCs zHn
  by_cases c : n = 8
  · subst c
    have hj8 : j < 8 := hj
    have em : min (8 + 1) 8 = 8 := rfl
    rw [em, if_pos (rfl : 8 = 8)]
    by_cases c7 : j < 7
    · rw [if_pos c7, if_neg (by omega), ← h (j + 1) (by omega)]
      congr 1
      omega
    · rw [if_neg c7, if_pos (by omega)]
  · have em : min (n + 1) 8 = n + 1 := by omega
    rw [em] at hj ⊢
    rw [if_neg c]
    by_cases cn : j = n
    · rw [if_pos cn, if_pos (by omega)]
    · rw [if_neg cn, if_neg (by omega), ← h j (by omega)]
      congr 1
      omega
theorem r_undo {kf n : Nat} (hk : kf ≤ 8) (h0 : 0 < n) (hn : n ≤ 8) {hs cs : Nat → Nat → Nat} (h : zRg kf n hs cs) : cs ((kf + 9 - 1) % 9) = hs (n - 1) ∧ zRg ((kf + 9 - 1) % 9) (n - 1) hs cs := by
  refine ⟨?_, fun j hj => ?_⟩
  · rw [← h (n - 1) (by omega)]
    congr 1
    omega
  · rw [← h j (by omega)]
    congr 1
    omega
theorem r_hold_at (kf : Nat) (b : Nat → Nat) (cs : Nat → Nat → Nat) : zCs kf b cs kf = b := if_pos rfl
