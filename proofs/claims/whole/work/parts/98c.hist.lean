/-! the reference's history: eight states of 64 ints, oldest first -/
theorem hcp_L (f : Nat → Int32) (i j : Nat) : ∀ n k f2, k + n = 65 → k ≤ 64 → ∀ x, n_X9_copy_L1 f i j n f2 k x = if j + k ≤ x ∧ x < j + 64 then f (x - j + i) else f2 x
  | 0, k, f2, h, hk, x => by omega
  | n + 1, k, f2, h, hk, x => by
    unfold n_X9_copy_L1
    have e : ((64 : Int32) ≤ nI k) ↔ 64 ≤ k := nI_leI (a := 64) (by omega) (by omega)
    by_cases c0 : (64 : Int32) ≤ nI k
    · have c := e.mp c0
      rw [if_pos c0, if_neg (by omega)]
    · have c : ¬ 64 ≤ k := fun h => c0 (e.mpr h)
      rw [if_neg c0, hcp_L f i j n (k + 1) _ (by omega) (by omega) x]
      unfold upd
      by_cases c1 : j + (k + 1) ≤ x ∧ x < j + 64
      · rw [if_pos c1, if_pos (by omega)]
      · rw [if_neg c1]
        by_cases c2 : x = j + k
        · rw [if_pos c2, if_pos (by omega), c2]
          congr 1
          omega
        · rw [if_neg c2, if_neg (by omega)]
theorem hcp (f f2 : Nat → Int32) (i j x : Nat) : n_X9_copy f f2 i j x = if j ≤ x ∧ x < j + 64 then f (x - j + i) else f2 x := by
  have := hcp_L f i j 65 0 f2 rfl (by omega) x
  rwa [Nat.add_zero] at this
theorem hcs_L (f : Nat → Int32) (j : Nat) : ∀ n k f2, k + n = 65 → k ≤ 64 → (∀ x, f2 x = if j ≤ x ∧ x < j + k then f (x + 64) else f x) → ∀ x, n_X9_copy_s_L1 (j + 64) j n f2 k x = if j ≤ x ∧ x < j + 64 then f (x + 64) else f x
  | 0, k, f2, h, hk, hf, x => by omega
  | n + 1, k, f2, h, hk, hf, x => by
    unfold n_X9_copy_s_L1
    have e : ((64 : Int32) ≤ nI k) ↔ 64 ≤ k := nI_leI (a := 64) (by omega) (by omega)
    by_cases c0 : (64 : Int32) ≤ nI k
    · have c := e.mp c0
      rw [if_pos c0, hf x, show k = 64 by omega]
    · have c : ¬ 64 ≤ k := fun h => c0 (e.mpr h)
      rw [if_neg c0]
      refine hcs_L f j n (k + 1) _ (by omega) (by omega) (fun y => ?_) x
      unfold upd
      by_cases c2 : y = j + k
      · rw [if_pos c2, if_pos (by omega), hf, if_neg (by omega), c2]
        congr 1
        omega
      · rw [if_neg c2, hf y]
        by_cases c3 : j ≤ y ∧ y < j + k
        · rw [if_pos c3, if_pos (by omega)]
        · rw [if_neg c3, if_neg (by omega)]
theorem hcs (f : Nat → Int32) (i j x : Nat) (hi : i = j + 64) : n_X9_copy_s f i j x = if j ≤ x ∧ x < j + 64 then f (x + 64) else f x := by
  subst hi
  exact hcs_L f j 65 0 f rfl (by omega) (fun x => by rw [if_neg (by omega)]) x
/-- the first `n` states of the history are `hs` -/
def zHg (n : Nat) (hs : Nat → Nat → Nat) (gh : Nat → Int32) : Prop := ∀ i, i < n → ∀ j, j < 64 → gh (64 * i + j) = nI (hs i j)
def zHn (n : Nat) (b : Nat → Nat) (hs : Nat → Nat → Nat) : Nat → Nat → Nat := fun i => if n = 8 then (if i < 7 then hs (i + 1) else b) else if i = n then b else hs i
theorem h_commit {n : Nat} (hn : n ≤ 8) {hs : Nat → Nat → Nat} {b : Nat → Nat} {gb gh : Nat → Int32} (hb : ∀ j, j < 64 → gb j = nI (b j)) (h : zHg n hs gh) (x : Int32) : (n_X9_commit (nI n) gb gh x).1 = x ∧ (n_X9_commit (nI n) gb gh x).2.1 = nI (min (n + 1) 8) ∧ zHg (min (n + 1) 8) (zHn n b hs) (n_X9_commit (nI n) gb gh x).2.2 := by
  have e8 : (nI n = (8 : Int32)) ↔ n = 8 := nI_eq (b := 8) (by omega) (by omega)
  by_cases c0 : nI n = (8 : Int32)
  · have c := e8.mp c0
    subst c
    have E : n_X9_commit (nI 8) gb gh x = (x, nI 8, n_X9_copy gb (n_X9_copy_s (n_X9_copy_s (n_X9_copy_s (n_X9_copy_s (n_X9_copy_s (n_X9_copy_s (n_X9_copy_s gh 64 0) 128 64) 192 128) 256 192) 320 256) 384 320) 448 384) 0 (64 * 7)) := by
      unfold n_X9_commit
      rw [if_pos c0, zn_I (by omega)]
    rw [E]
    refine ⟨rfl, rfl, fun i hi j hj => ?_⟩
    have hi' : i < 8 := hi
    dsimp only
    unfold zHn
    rw [if_pos rfl, hcp]
    by_cases c7 : i < 7
    · rw [if_pos c7, if_neg (by omega), ← h (i + 1) (by omega) j hj]
      have e : 64 * (i + 1) + j = 64 * i + j + 64 := by omega
      rw [e]
      generalize hx : 64 * i + j = y
      have hy : y < 448 := by omega
      rw [hcs _ _ _ _ rfl]
      by_cases d6 : 384 ≤ y
      · rw [if_pos (by omega)]
        rw [hcs _ _ _ _ rfl, if_neg (by omega), hcs _ _ _ _ rfl, if_neg (by omega), hcs _ _ _ _ rfl, if_neg (by omega), hcs _ _ _ _ rfl, if_neg (by omega), hcs _ _ _ _ rfl, if_neg (by omega), hcs _ _ _ _ rfl, if_neg (by omega)]
      rw [if_neg (by omega), hcs _ _ _ _ rfl]
      by_cases d5 : 320 ≤ y
      · rw [if_pos (by omega)]
        rw [hcs _ _ _ _ rfl, if_neg (by omega), hcs _ _ _ _ rfl, if_neg (by omega), hcs _ _ _ _ rfl, if_neg (by omega), hcs _ _ _ _ rfl, if_neg (by omega), hcs _ _ _ _ rfl, if_neg (by omega)]
      rw [if_neg (by omega), hcs _ _ _ _ rfl]
      by_cases d4 : 256 ≤ y
      · rw [if_pos (by omega)]
        rw [hcs _ _ _ _ rfl, if_neg (by omega), hcs _ _ _ _ rfl, if_neg (by omega), hcs _ _ _ _ rfl, if_neg (by omega), hcs _ _ _ _ rfl, if_neg (by omega)]
      rw [if_neg (by omega), hcs _ _ _ _ rfl]
      by_cases d3 : 192 ≤ y
      · rw [if_pos (by omega)]
        rw [hcs _ _ _ _ rfl, if_neg (by omega), hcs _ _ _ _ rfl, if_neg (by omega), hcs _ _ _ _ rfl, if_neg (by omega)]
      rw [if_neg (by omega), hcs _ _ _ _ rfl]
      by_cases d2 : 128 ≤ y
      · rw [if_pos (by omega)]
        rw [hcs _ _ _ _ rfl, if_neg (by omega), hcs _ _ _ _ rfl, if_neg (by omega)]
      rw [if_neg (by omega), hcs _ _ _ _ rfl]
      by_cases d1 : 64 ≤ y
      · rw [if_pos (by omega)]
        rw [hcs _ _ _ _ rfl, if_neg (by omega)]
      rw [if_neg (by omega), hcs _ _ _ _ rfl, if_pos (by omega)]
    · have e7 : i = 7 := by omega
      subst e7
      rw [if_pos (by omega), if_neg (by omega), ← hb j hj]
      exact congrArg gb (by omega)
  · have c : ¬ n = 8 := fun h => c0 (e8.mpr h)
    have E : n_X9_commit (nI n) gb gh x = (x, nI (n + 1), n_X9_copy gb gh 0 (64 * n)) := by
      unfold n_X9_commit
      rw [if_neg c0, zn_I (by omega)]
    rw [E]
    have em : min (n + 1) 8 = n + 1 := by omega
    rw [em]
    refine ⟨rfl, rfl, fun i hi j hj => ?_⟩
    dsimp only
    unfold zHn
    rw [if_neg c, hcp]
    by_cases ci : i = n
    · subst ci
      rw [if_pos rfl, if_pos (by omega), ← hb j hj]
      congr 1
      omega
    · rw [if_neg ci, if_neg (by omega), ← h i (by omega) j hj]
theorem h_undo {n : Nat} (h0 : 0 < n) (hn : n ≤ 8) {hs : Nat → Nat → Nat} {g gh : Nat → Int32} (h : zHg n hs gh) : (n_X9_undo_ok (nI n) g gh).1 = nI (n - 1) ∧ (n_X9_undo_ok (nI n) g gh).2.1 = 0 ∧ (n_X9_undo_ok (nI n) g gh).2.2.1 = nI (n - 1) ∧ (∀ j, j < 64 → (n_X9_undo_ok (nI n) g gh).2.2.2 j = nI (hs (n - 1) j)) ∧ zHg (n - 1) hs gh := by
  have E : n_X9_undo_ok (nI n) g gh = (nI (n - 1), 0, nI (n - 1), n_X9_copy gh g (64 * (n - 1)) 0) := by
    unfold n_X9_undo_ok
    rw [zn_I (by omega)]
  rw [E]
  refine ⟨rfl, rfl, rfl, fun j hj => ?_, fun i hi j hj => h i (by omega) j hj⟩
  dsimp only
  rw [hcp, if_pos (by omega), ← h (n - 1) (by omega) j hj]
  congr 1
  omega
