/-! the model's state at Nat -/
theorem lI0 : (0 : Int32) = nI 0 := rfl
theorem lI1 : (1 : Int32) = nI 1 := rfl
theorem lI2 : (2 : Int32) = nI 2 := rfl
theorem lI3 : (3 : Int32) = nI 3 := rfl
theorem lI4 : (4 : Int32) = nI 4 := rfl
theorem lI5 : (5 : Int32) = nI 5 := rfl
theorem lI6 : (6 : Int32) = nI 6 := rfl
theorem lI8 : (8 : Int32) = nI 8 := rfl
theorem lI9 : (9 : Int32) = nI 9 := rfl
theorem lI10 : (10 : Int32) = nI 10 := rfl
theorem lI20 : (20 : Int32) = nI 20 := rfl
theorem lI50 : (50 : Int32) = nI 50 := rfl
theorem lI100 : (100 : Int32) = nI 100 := rfl
theorem lI200 : (200 : Int32) = nI 200 := rfl
theorem lI300 : (300 : Int32) = nI 300 := rfl
theorem lI400 : (400 : Int32) = nI 400 := rfl
theorem lI5000 : (5000 : Int32) = nI 5000 := rfl
theorem lIm : (-1 : Int32) = Int32.ofInt (-1) := rfl
theorem zn_I {n : Nat} (h : n < 2 ^ 31) : zn (nI n) = n := zn_of (zi_i n) h
theorem zle_I {n b : Nat} (h : n ≤ b) (hb : b < 2 ^ 31) : zle (nI n) b := zle_of (zi_i n) h hb
def um (f : Nat → Nat) (k x : Nat) : Nat → Nat := fun j => if j = k then x else f j
theorem um_s {f : Nat → Nat} {k x : Nat} : um f k x k = x := if_pos rfl
theorem um_n {f : Nat → Nat} {k j x : Nat} (h : j ≠ k) : um f k x j = f j := if_neg h
def zF (a : Nat → Nat) : Nat → Int32 := fun j => nI (a j)
theorem zF_at (a : Nat → Nat) (j : Nat) : zF a j = nI (a j) := rfl
theorem zF_up (a : Nat → Nat) (k x : Nat) : upd (zF a) k (nI x) = zF (um a k x) := by
  funext j
  unfold upd zF um
  split <;> rfl
theorem zF_ex (g : Nat → Int32) : ∃ a, g = zF a := ⟨fun j => (g j).toBitVec.toNat, by
  funext j
  unfold zF nI
  apply Int32.toBitVec_inj.mp
  simp⟩
def mBall (a : Nat → Nat) : Nat → Nat :=
  um (um (um (um (um (um (um (um (um (um (um (um (um (um (um (um (um (um (um (um a 5 1) 16 0) 17 0) 18 0) 19 0) 20 50) 21 50) 22 50) 24 0) 25 0) 26 0) 27 0) 28 0) 6 0) 7 0) 8 0) 9 0) 10 0) 11 0) 12 0
def mAdds (a : Nat → Nat) : Nat → Nat := um (um (um (um a (30 + a 2) 0) (34 + a 2) 0) (38 + a 2) 0) 2 (a 2 + 1)
def mStarts (a : Nat → Nat) : Nat → Nat :=
  mBall (um (um (um (um (um (um (um (um (um (um (um (um (um (um (um (um a 30 0) 34 0) 38 0) 31 0) 35 0) 39 0) 32 0) 36 0) 40 0) 33 0) 37 0) 41 0) 0 1) 3 0) 4 1) 1 (a 1 + 1))
def mExtra (a : Nat → Nat) (c : Nat) : Nat → Nat := um a (34 + c) (if 3 ≤ a (34 + c) then a (34 + c) else a (34 + c) + 1)
def mScores (a : Nat → Nat) (k y : Nat) : Nat → Nat :=
  if a (30 + a 3) + y < 5000 then um (um a (42 + k) (a (42 + k) + y)) (30 + a 3) (a (30 + a 3) + y)
  else if a (38 + a 3) = 0 then mExtra (um (um (um a (42 + k) (a (42 + k) + y)) (30 + a 3) (a (30 + a 3) + y)) (38 + a 3) 1) (a 3)
  else um (um a (42 + k) (a (42 + k) + y)) (30 + a 3) (a (30 + a 3) + y)
def mCounts (a : Nat → Nat) : Nat → Nat := um (um a 10 (a 10 + 1)) 8 (a 8 - 1)
def mFullL (f : Nat → Nat) : Nat → Nat :=
  if f 16 = 0 then f else if f 17 = 0 then f else if f 18 = 0 then f else if f 19 = 0 then f
  else um (um (um (um (um f 16 0) 17 0) 18 0) 19 0) 5 (if 6 ≤ f 5 then f 5 else f 5 + 1)
def mLane (a : Nat → Nat) (i : Nat) : Nat × (Nat → Nat) :=
  if a 11 = 1 then (0, um a 10 (a 10 + 1))
  else if a (16 + i) = 1 then (10 * a 5, mFullL (um (mScores (mCounts a) 0 (10 * a 5)) (16 + i) 1))
  else (100 * a 5, mFullL (um (mScores (mCounts a) 0 (100 * a 5)) (16 + i) 1))
def mBump (a : Nat → Nat) (i : Nat) : Nat × (Nat → Nat) :=
  if a 11 = 1 then (0, um a 10 (a 10 + 1))
  else (a (20 + i) * a 5, um (mScores (mCounts a) 1 (a (20 + i) * a 5)) (20 + i) (if 200 ≤ a (20 + i) then a (20 + i) else a (20 + i) + 10))
def mBank (f : Nat → Nat) : Nat → Nat :=
  if f 6 + 1 = 2 then mExtra (um (um f 7 (f 7 + 3)) 6 (f 6 + 1)) (f 3) else um (um f 7 (f 7 + 3)) 6 (f 6 + 1)
def mFullT (f : Nat → Nat) : Nat → Nat :=
  if f 24 = 0 then f else if f 25 = 0 then f else if f 26 = 0 then f else if f 27 = 0 then f else if f 28 = 0 then f
  else mBank (um (um (um (um (um f 24 0) 25 0) 26 0) 27 0) 28 0)
def mTarg (a : Nat → Nat) (i : Nat) : Nat × (Nat → Nat) :=
  if a 11 = 1 then (0, um a 10 (a 10 + 1))
  else if a (24 + i) = 1 then (20 * a 5, mScores (mCounts a) 2 (20 * a 5))
  else (200 * a 5, mFullT (um (um (mScores (mCounts a) 2 (200 * a 5)) 7 (a 7 + 1)) (24 + i) 1))
def mNudge (a : Nat → Nat) (x : Nat) : Nat × (Nat → Nat) :=
  if a 11 = 1 then (a 9, a)
  else if 5 ≤ a 8 + x then
    if a 9 + 1 = 3 then (a 9 + 1, um (um (um (um a 8 0) 9 (a 9 + 1)) 11 1) 15 (a 15 + 1))
    else (a 9 + 1, um (um a 8 0) 9 (a 9 + 1))
  else (a 9, um a 8 (a 8 + x))
/-- what the invariant says of the ball, the players, the numbers; b counts the commands that were done -/
def zBd (b : Nat) (a : Nat → Nat) : Prop :=
  b ≤ 20000 ∧ a 0 ≤ 1 ∧ a 1 ≤ b ∧ a 2 ≤ 4 ∧ a 3 ≤ 3 ∧ a 4 ≤ 3 ∧ a 5 ≤ 6 ∧ a 6 ≤ b ∧ a 8 ≤ 4 ∧ a 9 ≤ 3 ∧ a 10 ≤ b ∧ a 11 ≤ 1 ∧ a 12 ≤ 1 ∧ a 13 ≤ 5 ∧ a 14 ≤ b ∧ a 15 ≤ b
  ∧ (∀ i, i < 4 → a (16 + i) ≤ 1) ∧ (∀ i, i < 3 → a (20 + i) ≤ 200 ∧ a (20 + i) % 10 = 0) ∧ (∀ i, i < 5 → a (24 + i) ≤ 1)
  ∧ (a 0 = 1 → 1 ≤ a 2 ∧ a 3 < a 2 ∧ 1 ≤ a 4 ∧ 1 ≤ a 5 ∧ (a 11 = 0 → a 9 < 3) ∧ ∀ i, i < 3 → 50 ≤ a (20 + i))
  ∧ (∀ c, c < 4 → a (30 + c) ≤ 4000 * b ∧ (a 0 = 1 → a (30 + c) + 600 * a 7 ≤ 4000 * b) ∧ a (34 + c) ≤ 3 ∧ (5000 ≤ a (30 + c) ∧ a (38 + c) = 1 ∨ a (30 + c) < 5000 ∧ a (38 + c) = 0))
  ∧ (∀ c, c < 4 → a 2 ≤ c → a (30 + c) = 0 ∧ a (34 + c) = 0)
/-- the records: bounded, sorted -/
def zBe (a : Nat → Nat) (i j : Nat) : Prop :=
  a (46 + 3 * j) < a (46 + 3 * i) ∨ a (46 + 3 * i) = a (46 + 3 * j) ∧ (a (48 + 3 * i) < a (48 + 3 * j) ∨ a (48 + 3 * i) = a (48 + 3 * j) ∧ a (47 + 3 * i) < a (47 + 3 * j))
def zBr (b : Nat) (a : Nat → Nat) : Prop :=
  (∀ i, i < a 13 → a (46 + 3 * i) ≤ 4000 * b ∧ a (47 + 3 * i) ≤ 3 ∧ a (48 + 3 * i) + a 0 ≤ a 1) ∧ (∀ i, i + 1 < a 13 → zBe a i (i + 1))
def zInv (b : Nat) (a : Nat → Nat) : Prop := zBd b a ∧ zBr b a
theorem e_counts {a : Nat → Nat} (h11 : a 11 ≤ 1) (h8 : a 8 ≤ 4) : n_X9_counts (zF a) = if a 11 = 1 then (nI 0, zF (um a 10 (a 10 + 1))) else (nI 1, zF (mCounts a)) := by
  unfold n_X9_counts n_X9_isTilt mCounts
  have e8 : ¬ a 8 = 0 → nI (a 8) - nI 1 = nI (a 8 - 1) := fun h => pk_sub (by omega)
  have e8' : a 8 = 0 → nI (a 8) - nI 0 = nI (a 8 - 1) := fun h => by rw [h]; rfl
  by_cases h : a 11 = 1
  · simp (disch := omega) [lI0, lI1, lI2, lI3, lI4, lI5, lI6, lI8, lI9, lI10, lI20, lI50, lI100, lI200, lI400, lI300, lI5000, nI_add, pk_mul, nI_eq, nI_leI, nI_ltI, um_n, um_s, zF_at, zF_up, h]
  · by_cases h0 : a 8 = 0
    · simp (disch := omega) [lI0, lI1, lI2, lI3, lI4, lI5, lI6, lI8, lI9, lI10, lI20, lI50, lI100, lI200, lI400, lI300, lI5000, nI_add, pk_mul, nI_eq, nI_leI, nI_ltI, um_n, um_s, zF_at, zF_up, h, h0]
    · simp (disch := omega) [lI0, lI1, lI2, lI3, lI4, lI5, lI6, lI8, lI9, lI10, lI20, lI50, lI100, lI200, lI400, lI300, lI5000, nI_add, pk_mul, nI_eq, nI_leI, nI_ltI, um_n, um_s, zF_at, zF_up, h, h0, e8 h0]
