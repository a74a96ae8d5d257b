theorem zBd_step {b : Nat} {a a' : Nat → Nat} (h : zBd b a) (hb' : b + 1 ≤ 20000) (hr : a 0 = 1) (s : ∀ j, j < 5 ∨ 12 ≤ j ∧ j < 15 → a' j = a j) (h5 : 1 ≤ a' 5 ∧ a' 5 ≤ 6) (h6 : a' 6 ≤ a 6 + 1) (h8 : a' 8 ≤ 4) (h9 : a' 9 ≤ 3 ∧ (a' 11 = 0 → a' 9 < 3)) (h10 : a' 10 ≤ a 10 + 1) (h11 : a' 11 ≤ 1) (h15 : a' 15 ≤ a 15 + 1)
    (hl : ∀ i, i < 4 → a' (16 + i) ≤ 1) (hbu : ∀ i, i < 3 → 50 ≤ a' (20 + i) ∧ a' (20 + i) ≤ 200 ∧ a' (20 + i) % 10 = 0) (hd : ∀ i, i < 5 → a' (24 + i) ≤ 1) (hp : ∀ c, c < 4 → a' (30 + c) + 600 * a' 7 ≤ a (30 + c) + 600 * a 7 + 4000 ∧ a' (34 + c) ≤ 3 ∧ (5000 ≤ a' (30 + c) ∧ a' (38 + c) = 1 ∨ a' (30 + c) < 5000 ∧ a' (38 + c) = 0)) (hz : ∀ c, c < 4 → c ≠ a 3 → a' (30 + c) = a (30 + c) ∧ a' (34 + c) = a (34 + c)) : zBd (b + 1) a' := by
  obtain ⟨g0, g1, g2, g3, g4, g5, g6, g7, g8, g9, g10, g11, g12, g13, g14, g15, gl, gb, gd, gr, gp, gz⟩ := h
  obtain ⟨r1, r2, r3, r4, r5, r6⟩ := gr hr
  have s0 := s 0 (by omega)
  have s1 := s 1 (by omega)
  have s2 := s 2 (by omega)
  have s3 := s 3 (by omega)
  have s4 := s 4 (by omega)
  have s12 := s 12 (by omega)
  have s13 := s 13 (by omega)
  have s14 := s 14 (by omega)
  refine ⟨hb', by omega, by omega, by omega, by omega, by omega, by omega, by omega, h8, h9.1, by omega, h11, by omega, by omega, by omega, by omega, hl, fun i hi => (hbu i hi).2, hd, fun _ => ⟨by omega, by omega, by omega, h5.1, h9.2, fun i hi => (hbu i hi).1⟩, fun c hc => ?_, fun c hc h2c => by have := hz c hc (by omega); have := gz c hc (by omega); omega⟩
  obtain ⟨p1, p2, p3⟩ := hp c hc
  have q1 := (gp c hc).2.1 hr
  exact ⟨by omega, fun _ => by omega, p2, p3⟩
theorem mFullL_n {f : Nat → Nat} {j : Nat} (hj : j ≠ 5 ∧ ¬ (16 ≤ j ∧ j ≤ 19)) : mFullL f j = f j := by
  unfold mFullL
  repeat' split
  all_goals (try simp (disch := omega) only [um_n])
theorem mFullL_16 {f : Nat → Nat} {i : Nat} (h : f (16 + i) ≤ 1) (hi : i < 4) : mFullL f (16 + i) ≤ 1 := by
  unfold mFullL
  repeat' split
  all_goals (try exact h)
  all_goals (obtain rfl | rfl | rfl | rfl : i = 0 ∨ i = 1 ∨ i = 2 ∨ i = 3 := by omega)
  all_goals simp (disch := omega) only [um_n, um_s]
  all_goals omega
theorem mFullL_5 {f : Nat → Nat} (h : 1 ≤ f 5 ∧ f 5 ≤ 6) : 1 ≤ mFullL f 5 ∧ mFullL f 5 ≤ 6 := by
  unfold mFullL
  repeat' split
  all_goals (try exact h)
  all_goals simp (disch := omega) only [um_n, um_s]
  all_goals omega
theorem mCounts_k {a : Nat → Nat} {j : Nat} (h : j ≠ 8 ∧ j ≠ 10) : mCounts a j = a j := by
  unfold mCounts
  simp (disch := omega) only [um_n]
theorem mCounts_10 {a : Nat → Nat} : mCounts a 10 = a 10 + 1 := by
  unfold mCounts
  simp (disch := omega) only [um_n, um_s]
theorem mCounts_8 {a : Nat → Nat} : mCounts a 8 = a 8 - 1 := by
  unfold mCounts
  simp (disch := omega) only [um_n, um_s]
theorem mCS_k {a : Nat → Nat} {k y j : Nat} (hk : k ≤ 3) (h3 : a 3 ≤ 3) (hj : j < 30 ∧ j ≠ 8 ∧ j ≠ 10 ∨ 46 ≤ j) : mScores (mCounts a) k y j = a j := by
  rw [mScores_k hk (by rw [mCounts_k (by omega)]; exact h3) (by omega), mCounts_k (by omega)]
theorem mCS_8 {a : Nat → Nat} {k y : Nat} (hk : k ≤ 3) (h3 : a 3 ≤ 3) : mScores (mCounts a) k y 8 = a 8 - 1 := by
  rw [mScores_k hk (by rw [mCounts_k (by omega)]; exact h3) (by omega), mCounts_8]
theorem mCS_10 {a : Nat → Nat} {k y : Nat} (hk : k ≤ 3) (h3 : a 3 ≤ 3) : mScores (mCounts a) k y 10 = a 10 + 1 := by
  rw [mScores_k hk (by rw [mCounts_k (by omega)]; exact h3) (by omega), mCounts_10]
/-- the players behind a scoring -/
theorem mCS_p {b : Nat} {a : Nat → Nat} {k y : Nat} (h : zBd b a) (hk : k ≤ 3) (c : Nat) (hc : c < 4) : mScores (mCounts a) k y (30 + c) ≤ a (30 + c) + y ∧ mScores (mCounts a) k y (34 + c) ≤ 3 ∧ (5000 ≤ mScores (mCounts a) k y (30 + c) ∧ mScores (mCounts a) k y (38 + c) = 1 ∨ mScores (mCounts a) k y (30 + c) < 5000 ∧ mScores (mCounts a) k y (38 + c) = 0) := by
  obtain ⟨g0, g1, g2, g3, g4, g5, g6, g7, g8, g9, g10, g11, g12, g13, g14, g15, gl, gb, gd, gr, gp, gz⟩ := h
  obtain ⟨p1, p0, p2, p3⟩ := gp c hc
  have e3 : mCounts a 3 = a 3 := mCounts_k (by omega)
  rw [mScores_30 hk (by omega) (by omega), mScores_34 hk (by omega) (by omega), mScores_38 hk (by omega) (by omega), e3]
  simp (disch := omega) only [mCounts_k]
  by_cases e : c = a 3
  · simp only [e, if_true, true_and]
    rw [e] at p1 p2 p3
    refine ⟨by omega, ?_, ?_⟩
    · repeat' split
      all_goals omega
    · by_cases q : 5000 ≤ a (30 + a 3) + y ∧ a (38 + a 3) = 0
      · rw [if_pos q]; omega
      · rw [if_neg q]; omega
  · simp only [e, if_false, false_and]
    omega
theorem mCS_o {a : Nat → Nat} {k y : Nat} (h3 : a 3 ≤ 3) (hk : k ≤ 3) (c : Nat) (hc : c < 4) (hn : c ≠ a 3) : mScores (mCounts a) k y (30 + c) = a (30 + c) ∧ mScores (mCounts a) k y (34 + c) = a (34 + c) := by
  have e3 : mCounts a 3 = a 3 := mCounts_k (by omega)
  rw [mScores_30 hk (by omega) (by omega), mScores_34 hk (by omega) (by omega), e3, if_neg hn, if_neg (fun z => hn z.1)]
  simp (disch := omega) only [mCounts_k, and_self]
theorem bd_lane {b : Nat} {a : Nat → Nat} {i : Nat} (h : zBd b a) (hb' : b + 1 ≤ 20000) (hr : a 0 = 1) (hi : i < 4) : zBd (b + 1) (mLane a i).2 := by
  have h' := h
  obtain ⟨g0, g1, g2, g3, g4, g5, g6, g7, g8, g9, g10, g11, g12, g13, g14, g15, gl, gb, gd, gr, gp, gz⟩ := h
  obtain ⟨r1, r2, r3, r4, r5, r6⟩ := gr hr
  unfold mLane
  by_cases ht : a 11 = 1
  · rw [if_pos ht]
    refine zBd_step h' hb' hr (fun j hj => um_n (by omega)) ?_ ?_ ?_ ?_ ?_ ?_ ?_ (fun i hi => ?_) (fun i hi => ?_) (fun i hi => ?_) (fun c hc => ?_) (fun c hc hn => ⟨um_n (by omega), um_n (by omega)⟩)
    all_goals simp (disch := omega) only [um_n, um_s]
    all_goals (try omega)
    · exact gl i hi
    · have := r6 i hi; have := gb i hi; omega
    · exact gd i hi
    · have := gp c hc; omega
  · rw [if_neg ht]
    have key : ∀ y, y ≤ 600 → zBd (b + 1) (mFullL (um (mScores (mCounts a) 0 y) (16 + i) 1)) := by
      intro y hy
      refine zBd_step h' hb' hr (fun j hj => ?_) ?_ ?_ ?_ ?_ ?_ ?_ ?_ (fun i' hi' => mFullL_16 ?_ hi') (fun i' hi' => ?_) (fun i' hi' => ?_) (fun c hc => ?_) (fun c hc hn => by rw [mFullL_n (by omega), mFullL_n (by omega), um_n (by omega), um_n (by omega)]; exact mCS_o g4 (by omega) c hc hn)
      · simp (disch := omega) only [mFullL_n, um_n, um_s, mCS_k]
      · refine mFullL_5 ?_
        simp (disch := omega) only [um_n, um_s, mCS_k]
        omega
      · simp (disch := omega) only [mFullL_n, um_n, um_s, mCS_k]; omega
      · simp (disch := omega) only [mFullL_n, um_n, um_s, mCS_8]; omega
      · simp (disch := omega) only [mFullL_n, um_n, um_s, mCS_k]; omega
      · simp (disch := omega) only [mFullL_n, um_n, um_s, mCS_10]; omega
      · simp (disch := omega) only [mFullL_n, um_n, um_s, mCS_k]; omega
      · simp (disch := omega) only [mFullL_n, um_n, um_s, mCS_k]; omega
      · by_cases e : i' = i
        · subst e; rw [um_s]; omega
        · simp (disch := omega) only [um_n, um_s, mCS_k]; exact gl i' hi'
      · simp (disch := omega) only [mFullL_n, um_n, um_s, mCS_k]
        have := r6 i' hi'; have := gb i' hi'; omega
      · simp (disch := omega) only [mFullL_n, um_n, um_s, mCS_k]; exact gd i' hi'
      · simp (disch := omega) only [mFullL_n, um_n, um_s, mCS_k]
        have := mCS_p (k := 0) (y := y) h' (by omega) c hc
        omega
    split
    · exact key _ (by omega)
    · exact key _ (by omega)
theorem e_lane {b : Nat} {a : Nat → Nat} {i : Nat} (h : zBd b a) (hi : i < 4) : n_X9_hitsLane (zF a) i = (nI (mLane a i).1, zF (mLane a i).2) := by
  have h' := h
  obtain ⟨g0, g1, g2, g3, g4, g5, g6, g7, g8, g9, g10, g11, g12, g13, g14, g15, gl, gb, gd, gr, gp, gz⟩ := h
  have li := gl i hi
  obtain ⟨p1, p0, p2, p3⟩ := gp (a 3) (by omega)
  have e0 : nI 0 = 0 := rfl
  have e10 : ¬ nI 1 = 0 := by decide
  have full : ∀ f : Nat → Nat, f 5 = a 5 → (∀ j, 16 ≤ j → j < 20 → f j ≤ 1) → (if (n_X9_isFullL (zF f)).1 = 0 then (n_X9_isFullL (zF f)).2 else if 6 ≤ zF a 5 then upd (n_X9_isFullL (zF f)).2 5 (zF a 5 + 0) else upd (n_X9_isFullL (zF f)).2 5 (zF a 5 + 1)) = zF (mFullL f) := by
    intro f hf hl
    have l16 := hl 16 (by omega) (by omega)
    have l17 := hl 17 (by omega) (by omega)
    have l18 := hl 18 (by omega) (by omega)
    have l19 := hl 19 (by omega) (by omega)
    unfold n_X9_isFullL mFullL
    rw [hf]
    by_cases q16 : f 16 = 0
    · simp (disch := omega) [lI0, lI1, lI2, lI3, lI4, lI5, lI6, lI8, lI9, lI10, lI20, lI50, lI100, lI200, lI400, lI300, lI5000, nI_add, pk_mul, nI_eq, nI_leI, nI_ltI, um_n, um_s, zF_at, zF_up, q16]
    by_cases q17 : f 17 = 0
    · simp (disch := omega) [lI0, lI1, lI2, lI3, lI4, lI5, lI6, lI8, lI9, lI10, lI20, lI50, lI100, lI200, lI400, lI300, lI5000, nI_add, pk_mul, nI_eq, nI_leI, nI_ltI, um_n, um_s, zF_at, zF_up, q16, q17]
    by_cases q18 : f 18 = 0
    · simp (disch := omega) [lI0, lI1, lI2, lI3, lI4, lI5, lI6, lI8, lI9, lI10, lI20, lI50, lI100, lI200, lI400, lI300, lI5000, nI_add, pk_mul, nI_eq, nI_leI, nI_ltI, um_n, um_s, zF_at, zF_up, q16, q17, q18]
    by_cases q19 : f 19 = 0
    · simp (disch := omega) [lI0, lI1, lI2, lI3, lI4, lI5, lI6, lI8, lI9, lI10, lI20, lI50, lI100, lI200, lI400, lI300, lI5000, nI_add, pk_mul, nI_eq, nI_leI, nI_ltI, um_n, um_s, zF_at, zF_up, q16, q17, q18, q19]
    by_cases q5 : 6 ≤ a 5
    · simp (disch := omega) [lI0, lI1, lI2, lI3, lI4, lI5, lI6, lI8, lI9, lI10, lI20, lI50, lI100, lI200, lI400, lI300, lI5000, nI_add, pk_mul, nI_eq, nI_leI, nI_ltI, um_n, um_s, zF_at, zF_up, q16, q17, q18, q19, q5]
    · simp (disch := omega) [lI0, lI1, lI2, lI3, lI4, lI5, lI6, lI8, lI9, lI10, lI20, lI50, lI100, lI200, lI400, lI300, lI5000, nI_add, pk_mul, nI_eq, nI_leI, nI_ltI, um_n, um_s, zF_at, zF_up, q16, q17, q18, q19, q5]
  unfold n_X9_hitsLane mLane
  rw [e_counts g11 g8]
  by_cases ht : a 11 = 1
  · simp (disch := omega) [lI0, lI1, lI2, lI3, lI4, lI5, lI6, lI8, lI9, lI10, lI20, lI50, lI100, lI200, lI400, lI300, lI5000, nI_add, pk_mul, nI_eq, nI_leI, nI_ltI, um_n, um_s, zF_at, zF_up, ht]
  · have sc : ∀ x, x ≤ 100 → n_X9_scores (zF (mCounts a)) 0 (nI x) = (nI (x * a 5), zF (mScores (mCounts a) 0 (x * a 5))) := by
      intro x hx
      have e3 : mCounts a 3 = a 3 := mCounts_k (by omega)
      have e5 : mCounts a 5 = a 5 := mCounts_k (by omega)
      have hm : x * a 5 ≤ 100 * 6 := Nat.mul_le_mul hx g6
      rw [e_scores (by omega) (by omega) (by rw [e3, e5, mCounts_k (by omega)]; omega) (by rw [e3, mCounts_k (by omega)]; omega) (by rw [e3, mCounts_k (by omega)]; omega), e5]
    have fz : ∀ y, (fun (s : Int32 × (Nat → Int32)) => if (n_X9_isFullL (upd s.2 (16 + i) 1)).1 = 0 then (n_X9_isFullL (upd s.2 (16 + i) 1)).2 else if 6 ≤ zF a 5 then upd (n_X9_isFullL (upd s.2 (16 + i) 1)).2 5 (zF a 5 + 0) else upd (n_X9_isFullL (upd s.2 (16 + i) 1)).2 5 (zF a 5 + 1)) (nI y, zF (mScores (mCounts a) 0 y)) = zF (mFullL (um (mScores (mCounts a) 0 y) (16 + i) 1)) := by
      intro y
      show (if (n_X9_isFullL (upd (zF (mScores (mCounts a) 0 y)) (16 + i) 1)).1 = 0 then _ else _) = _
      rw [lI1, zF_up]
      refine full _ ?_ ?_
      · simp (disch := omega) only [um_n, um_s, mCS_k]
      · intro j h1 h2
        by_cases e : j = 16 + i
        · subst e; rw [um_s]; omega
        · rw [um_n e, mCS_k (by omega) g4 (by omega)]
          have := gl (j - 16) (by omega)
          rw [show 16 + (j - 16) = j from by omega] at this
          exact this
    simp only [ht, if_false, e10]
    by_cases q : a (16 + i) = 1
    · have q' : zF a (16 + i) = 1 := by rw [zF_at, q]; rfl
      rw [if_pos q', if_pos q, lI10, sc 10 (by omega)]
      rw [← fz (10 * a 5)]
      dsimp only
      repeat' split
      all_goals rfl
    · have q' : ¬ zF a (16 + i) = 1 := by rw [zF_at, lI1]; exact fun z => q ((nI_eq (by omega) (by omega)).mp z)
      rw [if_neg q', if_neg q, lI100, sc 100 (by omega)]
      rw [← fz (100 * a 5)]
      dsimp only
      repeat' split
      all_goals rfl
