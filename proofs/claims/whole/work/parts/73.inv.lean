/-! every command keeps the invariant -/
theorem hit_k {a a' : Nat → Nat} {b : Nat} (hr : zBr b a) (hk : ∀ j, j = 0 ∨ j = 1 ∨ j = 13 ∨ 46 ≤ j → a' j = a j) : zBr (b + 1) a' :=
  zBr_up (zBr_k hr (hk 13 (by omega)) (by rw [hk 0 (by omega), hk 1 (by omega)]; omega) (fun j hj => hk j (by omega))) (by omega)
theorem mLane_k {a : Nat → Nat} {i j : Nat} (h3 : a 3 ≤ 3) (hi : i < 4) (hj : j < 5 ∨ 12 ≤ j ∧ j < 16 ∨ 46 ≤ j) : (mLane a i).2 j = a j := by
  unfold mLane
  repeat' split
  all_goals simp (disch := omega) only [mFullL_n, um_n, mCS_k]
theorem mBump_k {a : Nat → Nat} {i j : Nat} (h3 : a 3 ≤ 3) (hi : i < 3) (hj : j < 5 ∨ 12 ≤ j ∧ j < 16 ∨ 46 ≤ j) : (mBump a i).2 j = a j := by
  unfold mBump
  repeat' split
  all_goals simp (disch := omega) only [um_n, mCS_k]
theorem mTarg_k {a : Nat → Nat} {i j : Nat} (h3 : a 3 ≤ 3) (hi : i < 5) (hj : j < 5 ∨ 12 ≤ j ∧ j < 16 ∨ 46 ≤ j) : (mTarg a i).2 j = a j := by
  unfold mTarg
  split
  · simp (disch := omega) only [um_n]
  · split
    · simp (disch := omega) only [mCS_k]
    · dsimp only
      rw [mFullT_n (by simp (disch := omega) only [um_n, mCS_k]; exact h3) (by omega)]
      simp (disch := omega) only [um_n, mCS_k]
theorem mNudge_k {a : Nat → Nat} {x j : Nat} (hj : j < 8 ∨ j = 10 ∨ 12 ≤ j ∧ j < 15 ∨ 16 ≤ j) : (mNudge a x).2 j = a j := by
  unfold mNudge
  repeat' split
  all_goals (try simp (disch := omega) only [um_n])
theorem in_lane {b : Nat} {a : Nat → Nat} {i : Nat} (h : zInv b a) (hb : b + 1 ≤ 20000) (h0 : a 0 = 1) (hi : i < 4) : zInv (b + 1) (mLane a i).2 := by
  have h3 := h.1.2.2.2.2.1
  exact ⟨bd_lane h.1 hb h0 hi, hit_k h.2 (fun j hj => mLane_k h3 hi (by omega))⟩
theorem in_bump {b : Nat} {a : Nat → Nat} {i : Nat} (h : zInv b a) (hb : b + 1 ≤ 20000) (h0 : a 0 = 1) (hi : i < 3) : zInv (b + 1) (mBump a i).2 := by
  have h3 := h.1.2.2.2.2.1
  exact ⟨bd_bump h.1 hb h0 hi, hit_k h.2 (fun j hj => mBump_k h3 hi (by omega))⟩
theorem in_targ {b : Nat} {a : Nat → Nat} {i : Nat} (h : zInv b a) (hb : b + 1 ≤ 20000) (h0 : a 0 = 1) (hi : i < 5) : zInv (b + 1) (mTarg a i).2 := by
  have h3 := h.1.2.2.2.2.1
  exact ⟨bd_targ h.1 hb h0 hi, hit_k h.2 (fun j hj => mTarg_k h3 hi (by omega))⟩
theorem in_nudge {b : Nat} {a : Nat → Nat} {x : Nat} (h : zInv b a) (hb : b + 1 ≤ 20000) (h0 : a 0 = 1) : zInv (b + 1) (mNudge a x).2 :=
  ⟨bd_nudge h.1 hb h0, hit_k h.2 (fun j hj => mNudge_k (by omega))⟩
theorem in_adds {b : Nat} {a : Nat → Nat} (h : zInv b a) (hb : b + 1 ≤ 20000) (h2 : a 2 ≤ 3) : zInv (b + 1) (mAdds a) := by
  refine ⟨bd_up (bd_adds h.1 h2) (by omega) hb, hit_k h.2 (fun j hj => ?_)⟩
  unfold mAdds
  simp (disch := omega) only [um_n]
theorem in_starts {b : Nat} {a : Nat → Nat} (h : zInv b a) (hb : b + 1 ≤ 20000) (h0 : a 0 = 0) (h2 : 1 ≤ a 2) : zInv (b + 1) (mStarts a) := by
  have K : ∀ j, j = 13 ∨ 46 ≤ j → mStarts a j = a j := fun j hj => by
    unfold mStarts
    rw [mBall_n (by omega)]
    simp (disch := omega) only [um_n]
  have K0 : mStarts a 0 = 1 := by
    unfold mStarts
    rw [mBall_n (by omega)]
    simp (disch := omega) only [um_n, um_s]
  have K1 : mStarts a 1 = a 1 + 1 := by
    unfold mStarts
    rw [mBall_n (by omega)]
    simp (disch := omega) only [um_n, um_s]
  exact ⟨bd_starts h.1 h2 hb, zBr_up (zBr_k h.2 (K 13 (by omega)) (by rw [K0, K1]; omega) (fun j hj => K j (by omega))) (by omega)⟩
theorem in_quits {b : Nat} {a : Nat → Nat} (h : zInv b a) (hb : b + 1 ≤ 20000) : zInv (b + 1) (um a 0 0) :=
  ⟨bd_up (bd_quits h.1) (by omega) hb, zBr_up (zBr_k h.2 (um_n (by omega)) (by rw [um_s, um_n (by omega)]; omega) (fun j hj => um_n (by omega))) (by omega)⟩
theorem in_up {b b' : Nat} {a : Nat → Nat} (h : zInv b a) (hb : b ≤ b') (hb' : b' ≤ 20000) : zInv b' a := ⟨bd_up h.1 hb hb', zBr_up h.2 hb⟩
theorem in_0 {a : Nat → Nat} (h : ∀ j, j < 61 → a j = 0) : zInv 0 a := by
  constructor
  · unfold zBd
    rw [h 0 (by omega), h 1 (by omega), h 2 (by omega), h 3 (by omega), h 4 (by omega), h 5 (by omega), h 6 (by omega), h 8 (by omega), h 9 (by omega), h 10 (by omega), h 11 (by omega), h 12 (by omega), h 13 (by omega), h 14 (by omega), h 15 (by omega)]
    refine ⟨by omega, by omega, by omega, by omega, by omega, by omega, by omega, by omega, by omega, by omega, by omega, by omega, by omega, by omega, by omega, by omega, fun i hi => ?_, fun i hi => ?_, fun i hi => ?_, fun z => by omega, fun c hc => ?_, fun c hc h2c => ⟨h _ (by omega), h _ (by omega)⟩⟩
    · rw [h _ (by omega)]; omega
    · rw [h _ (by omega)]; omega
    · rw [h _ (by omega)]; omega
    · have := h (30 + c) (by omega)
      have := h (34 + c) (by omega)
      have := h (38 + c) (by omega)
      have := h 0 (by omega)
      omega
  · have := h 13 (by omega)
    exact ⟨fun i hi => by omega, fun i hi => by omega⟩
