theorem e_targ {b : Nat} {a : Nat → Nat} {i : Nat} (h : zBd b a) (hi : i < 5) : n_X9_hitsTarget (zF a) i = (nI (mTarg a i).1, zF (mTarg a i).2) := by
  have h' := h
  obtain ⟨g0, g1, g2, g3, g4, g5, g6, g7, g8, g9, g10, g11, g12, g13, g14, g15, gl, gb, gd, gr, gp, gz⟩ := h
  have di := gd i hi
  obtain ⟨p1, p0, p2, p3⟩ := gp (a 3) (by omega)
  have e10 : ¬ nI 1 = 0 := by decide
  have e3 : mCounts a 3 = a 3 := mCounts_k (by omega)
  have e5 : mCounts a 5 = a 5 := mCounts_k (by omega)
  have sc : ∀ x, x ≤ 200 → n_X9_scores (zF (mCounts a)) 2 (nI x) = (nI (x * a 5), zF (mScores (mCounts a) 2 (x * a 5))) := by
    intro x hx
    have hm : x * a 5 ≤ 200 * 6 := Nat.mul_le_mul hx g6
    rw [e_scores (by omega) (by omega) (by rw [e3, e5, mCounts_k (by omega)]; omega) (by rw [e3, mCounts_k (by omega)]; omega) (by rw [e3, mCounts_k (by omega)]; omega), e5]
  unfold n_X9_hitsTarget mTarg
  rw [e_counts g11 g8]
  by_cases ht : a 11 = 1
  · simp (disch := omega) [lI0, lI1, lI2, lI3, lI4, lI5, lI6, lI8, lI9, lI10, lI20, lI50, lI100, lI200, lI400, lI300, lI5000, nI_add, pk_mul, nI_eq, nI_leI, nI_ltI, um_n, um_s, zF_at, zF_up, ht]
  by_cases q : a (24 + i) = 1
  · have q' : zF a (24 + i) = 1 := by rw [zF_at, q]; rfl
    simp only [ht, if_false, e10, if_pos q', if_pos q, lI20]
    rw [sc 20 (by omega)]
  · have q' : ¬ zF a (24 + i) = 1 := by rw [zF_at, lI1]; exact fun z => q ((nI_eq (by omega) (by omega)).mp z)
    simp only [ht, if_false, e10, if_neg q', if_neg q, lI200]
    rw [sc 200 (by omega)]
    have ga : zF a 7 + 1 = nI (a 7 + 1) := nI_1 _
    dsimp only
    rw [ga, lI1, zF_up, zF_up]
    generalize hf : um (um (mScores (mCounts a) 2 (200 * a 5)) 7 (a 7 + 1)) (24 + i) 1 = f
    have f3 : f 3 = a 3 := by rw [← hf]; simp (disch := omega) only [um_n, um_s, mCS_k]
    have f6 : f 6 = a 6 := by rw [← hf]; simp (disch := omega) only [um_n, um_s, mCS_k]
    have f7 : f 7 = a 7 + 1 := by rw [← hf]; simp (disch := omega) only [um_n, um_s]
    have fl : ∀ j, j < 5 → f (24 + j) ≤ 1 := by
      intro j hj
      rw [← hf]
      by_cases e : j = i
      · subst e; rw [um_s]; omega
      · simp (disch := omega) only [um_n, um_s, mCS_k]; exact gd j hj
    have fx : f (34 + a 3) ≤ 3 := by
      rw [← hf]
      simp (disch := omega) only [um_n, um_s]
      have := (mCS_p (k := 2) (y := 200 * a 5) h' (by omega) (a 3) (by omega)).2.1
      exact this
    have l0 := fl 0 (by omega)
    have l1 := fl 1 (by omega)
    have l2 := fl 2 (by omega)
    have l3 := fl 3 (by omega)
    have l4 := fl 4 (by omega)
    simp only [Nat.reduceAdd] at l0 l1 l2 l3 l4
    by_cases hz : zAllT f
    · obtain ⟨z0, z1, z2, z3, z4⟩ := hz
      rw [mFullT_p ⟨z0, z1, z2, z3, z4⟩]
      have hful : n_X9_isFullT (zF f) = (1, zF (um (um (um (um (um f 24 0) 25 0) 26 0) 27 0) 28 0)) := by
        unfold n_X9_isFullT
        simp (disch := omega) [lI0, lI1, lI2, lI3, lI4, lI5, lI6, lI8, lI9, lI10, lI20, lI50, lI100, lI200, lI400, lI300, lI5000, nI_add, pk_mul, nI_eq, nI_leI, nI_ltI, um_n, um_s, zF_at, zF_up, z0, z1, z2, z3, z4]
      rw [hful]
      have h10 : ¬ (1 : Int32) = 0 := by decide
      simp only [h10, if_false]
      have e6 : zF a 6 + nI 1 = nI (a 6 + 1) := nI_1 _
      have e7 : nI (a 7 + 1) + 3 = nI (a 7 + 1 + 3) := nI_add _ 3
      have zn3 : zn (zF a 3) = a 3 := zn_I (by omega)
      rw [e6, e7, zF_up, zF_up, lI2, zn3]
      unfold mBank
      simp (disch := omega) only [um_n, f6, f3, f7]
      by_cases q2 : a 6 + 1 = 2
      · rw [if_pos q2, if_pos ((nI_eq (by omega) (by omega)).mpr q2), e_extra (by simp (disch := omega) only [um_n]; exact fx)]
      · rw [if_neg q2, if_neg (fun z => q2 ((nI_eq (by omega) (by omega)).mp z))]
    · rw [mFullT_q hz]
      have hful : n_X9_isFullT (zF f) = (0, zF f) := by
        unfold n_X9_isFullT
        by_cases z0 : f 24 = 0
        · simp (disch := omega) [lI0, lI1, lI2, lI3, lI4, lI5, lI6, lI8, lI9, lI10, lI20, lI50, lI100, lI200, lI400, lI300, lI5000, nI_add, pk_mul, nI_eq, nI_leI, nI_ltI, um_n, um_s, zF_at, zF_up, z0]
        by_cases z1 : f 25 = 0
        · simp (disch := omega) [lI0, lI1, lI2, lI3, lI4, lI5, lI6, lI8, lI9, lI10, lI20, lI50, lI100, lI200, lI400, lI300, lI5000, nI_add, pk_mul, nI_eq, nI_leI, nI_ltI, um_n, um_s, zF_at, zF_up, z0, z1]
        by_cases z2 : f 26 = 0
        · simp (disch := omega) [lI0, lI1, lI2, lI3, lI4, lI5, lI6, lI8, lI9, lI10, lI20, lI50, lI100, lI200, lI400, lI300, lI5000, nI_add, pk_mul, nI_eq, nI_leI, nI_ltI, um_n, um_s, zF_at, zF_up, z0, z1, z2]
        by_cases z3 : f 27 = 0
        · simp (disch := omega) [lI0, lI1, lI2, lI3, lI4, lI5, lI6, lI8, lI9, lI10, lI20, lI50, lI100, lI200, lI400, lI300, lI5000, nI_add, pk_mul, nI_eq, nI_leI, nI_ltI, um_n, um_s, zF_at, zF_up, z0, z1, z2, z3]
        by_cases z4 : f 28 = 0
        · simp (disch := omega) [lI0, lI1, lI2, lI3, lI4, lI5, lI6, lI8, lI9, lI10, lI20, lI50, lI100, lI200, lI400, lI300, lI5000, nI_add, pk_mul, nI_eq, nI_leI, nI_ltI, um_n, um_s, zF_at, zF_up, z0, z1, z2, z3, z4]
        exact absurd ⟨z0, z1, z2, z3, z4⟩ hz
      rw [hful]
      simp only [if_true]
theorem mBall_n {a : Nat → Nat} {j : Nat} (hj : j < 5 ∨ 13 ≤ j ∧ j < 16 ∨ 29 ≤ j) : mBall a j = a j := by
  unfold mBall
  simp (disch := omega) only [um_n]
/-- a fresh ball's places -/
def mFresh (j : Nat) : Nat := if j = 5 then 1 else if 20 ≤ j ∧ j < 23 then 50 else 0
theorem mBall_b {a : Nat → Nat} {j : Nat} (hj : 5 ≤ j ∧ j < 13 ∨ 16 ≤ j ∧ j < 23 ∨ 24 ≤ j ∧ j < 29) : mBall a j = mFresh j := by
  unfold mBall mFresh um
  obtain rfl | rfl | rfl | rfl | rfl | rfl | rfl | rfl | rfl | rfl | rfl | rfl | rfl | rfl | rfl | rfl | rfl | rfl | rfl | rfl : j = 5 ∨ j = 6 ∨ j = 7 ∨ j = 8 ∨ j = 9 ∨ j = 10 ∨ j = 11 ∨ j = 12 ∨ j = 16 ∨ j = 17 ∨ j = 18 ∨ j = 19 ∨ j = 20 ∨ j = 21 ∨ j = 22 ∨ j = 24 ∨ j = 25 ∨ j = 26 ∨ j = 27 ∨ j = 28 := by omega
  all_goals simp
theorem e_ball (a : Nat → Nat) : n_X9_beginsBall (zF a) = zF (mBall a) := by
  unfold n_X9_beginsBall mBall
  simp only [lI0, lI1, lI2, lI3, lI4, lI5, lI6, lI8, lI9, lI10, lI20, lI50, lI100, lI200, lI400, lI300, lI5000, zF_up]
theorem e_adds {b : Nat} {a : Nat → Nat} (h : zBd b a) : n_X9_adds (zF a) = (nI (a 2), zF (mAdds a)) := by
  have g3 := h.2.2.2.1
  unfold n_X9_adds mAdds
  simp (disch := omega) only [lI0, lI1, lI2, lI3, lI4, lI5, lI6, lI8, lI9, lI10, lI20, lI50, lI100, lI200, lI400, lI300, lI5000, zF_at, zF_up, zn_I]
theorem e_starts (a : Nat → Nat) : n_X9_starts (zF a) = (nI (a 1 + 1), zF (mStarts a)) := by
  unfold n_X9_starts mStarts
  simp only [lI0, lI1, lI2, lI3, lI4, lI5, lI6, lI8, lI9, lI10, lI20, lI50, lI100, lI200, lI400, lI300, lI5000, nI_add, pk_mul, zF_at, zF_up, e_ball]
theorem e_quits (a : Nat → Nat) : n_X9_quits (zF a) = (nI (a 3), zF (um a 0 0)) := by
  unfold n_X9_quits
  simp only [lI0, lI1, lI2, lI3, lI4, lI5, lI6, lI8, lI9, lI10, lI20, lI50, lI100, lI200, lI400, lI300, lI5000, nI_add, pk_mul, zF_at, zF_up]
theorem bd_up {b b' : Nat} {a : Nat → Nat} (h : zBd b a) (hb : b ≤ b') (hb' : b' ≤ 20000) : zBd b' a := by
  obtain ⟨g0, g1, g2, g3, g4, g5, g6, g7, g8, g9, g10, g11, g12, g13, g14, g15, gl, gb, gd, gr, gp, gz⟩ := h
  exact ⟨hb', g1, by omega, g3, g4, g5, g6, by omega, g8, g9, by omega, g11, g12, g13, by omega, by omega, gl, gb, gd, gr, fun c hc => by have := gp c hc; omega, gz⟩
theorem bd_quits {b : Nat} {a : Nat → Nat} (h : zBd b a) : zBd b (um a 0 0) := by
  obtain ⟨g0, g1, g2, g3, g4, g5, g6, g7, g8, g9, g10, g11, g12, g13, g14, g15, gl, gb, gd, gr, gp, gz⟩ := h
  unfold zBd
  simp (disch := omega) only [um_n, um_s]
  exact ⟨g0, by omega, g2, g3, g4, g5, g6, g7, g8, g9, g10, g11, g12, g13, g14, g15, gl, gb, gd, fun z => by omega, fun c hc => by have := gp c hc; exact ⟨this.1, fun z => by omega, this.2.2⟩, gz⟩
theorem bd_adds {b : Nat} {a : Nat → Nat} (h : zBd b a) (h2 : a 2 ≤ 3) : zBd b (mAdds a) := by
  obtain ⟨g0, g1, g2, g3, g4, g5, g6, g7, g8, g9, g10, g11, g12, g13, g14, g15, gl, gb, gd, gr, gp, gz⟩ := h
  have L : ∀ j, j < 30 → j ≠ 2 → mAdds a j = a j := fun j h1 h2 => by
    unfold mAdds
    simp (disch := omega) only [um_n]
  have L2 : mAdds a 2 = a 2 + 1 := um_s
  unfold zBd
  rw [L 0 (by omega) (by omega), L 1 (by omega) (by omega), L2, L 3 (by omega) (by omega), L 4 (by omega) (by omega), L 5 (by omega) (by omega), L 6 (by omega) (by omega), L 7 (by omega) (by omega), L 8 (by omega) (by omega), L 9 (by omega) (by omega), L 10 (by omega) (by omega), L 11 (by omega) (by omega), L 12 (by omega) (by omega), L 13 (by omega) (by omega), L 14 (by omega) (by omega), L 15 (by omega) (by omega)]
  refine ⟨g0, by omega, g2, by omega, g4, g5, g6, g7, g8, g9, g10, g11, g12, g13, g14, g15, fun i hi => ?_, fun i hi => ?_, fun i hi => ?_, fun z => ?_, fun c hc => ?_, fun c hc h2c => ?_⟩
  · rw [L _ (by omega) (by omega)]; exact gl i hi
  · rw [L _ (by omega) (by omega)]; exact gb i hi
  · rw [L _ (by omega) (by omega)]; exact gd i hi
  · obtain ⟨r1, r2, r3, r4, r5, r6⟩ := gr z
    exact ⟨by omega, by omega, r3, r4, r5, fun i hi => by rw [L _ (by omega) (by omega)]; exact r6 i hi⟩
  · have := gp c hc
    unfold mAdds
    by_cases e : c = a 2
    · subst e
      simp (disch := omega) only [um_n, um_s, and_true]
      omega
    · simp (disch := omega) only [um_n, um_s]
      exact this
  · have := gz c hc (by omega)
    unfold mAdds
    simp (disch := omega) only [um_n]
    exact this
theorem bd_ball {b : Nat} {f : Nat → Nat} (hb : b ≤ 20000) (f0 : f 0 = 1) (f1 : f 1 ≤ b) (f2 : 1 ≤ f 2 ∧ f 2 ≤ 4) (f3 : f 3 < f 2) (f4 : 1 ≤ f 4 ∧ f 4 ≤ 3) (f13 : f 13 ≤ 5) (f14 : f 14 ≤ b) (f15 : f 15 ≤ b) (fp : ∀ c, c < 4 → f (30 + c) ≤ 4000 * b ∧ f (34 + c) ≤ 3 ∧ (5000 ≤ f (30 + c) ∧ f (38 + c) = 1 ∨ f (30 + c) < 5000 ∧ f (38 + c) = 0)) (fz : ∀ c, c < 4 → f 2 ≤ c → f (30 + c) = 0 ∧ f (34 + c) = 0) : zBd b (mBall f) := by
  have N : ∀ j, j < 5 ∨ 13 ≤ j ∧ j < 16 ∨ 29 ≤ j → mBall f j = f j := fun j h => mBall_n h
  have B : ∀ j, 5 ≤ j ∧ j < 13 ∨ 16 ≤ j ∧ j < 23 ∨ 24 ≤ j ∧ j < 29 → mBall f j = mFresh j := fun j h => mBall_b h
  unfold zBd
  rw [N 0 (by omega), N 1 (by omega), N 2 (by omega), N 3 (by omega), N 4 (by omega), B 5 (by omega), B 6 (by omega), B 7 (by omega), B 8 (by omega), B 9 (by omega), B 10 (by omega), B 11 (by omega), B 12 (by omega), N 13 (by omega), N 14 (by omega), N 15 (by omega)]
  refine ⟨hb, by omega, f1, by omega, by omega, by omega, by decide, Nat.zero_le _, by decide, by decide, Nat.zero_le _, by decide, by decide, f13, f14, f15, fun i hi => ?_, fun i hi => ?_, fun i hi => ?_, fun _ => ⟨f2.1, f3, f4.1, by decide, fun _ => by decide, fun i hi => ?_⟩, fun c hc => ?_, fun c hc h2c => by rw [N _ (by omega), N _ (by omega)]; exact fz c hc h2c⟩
  · rw [B _ (by omega)]
    unfold mFresh
    rw [if_neg (by omega), if_neg (by omega)]; omega
  · rw [B _ (by omega)]
    unfold mFresh
    rw [if_neg (by omega), if_pos (by omega)]; omega
  · rw [B _ (by omega)]
    unfold mFresh
    rw [if_neg (by omega), if_neg (by omega)]; omega
  · rw [B _ (by omega)]
    unfold mFresh
    rw [if_neg (by omega), if_pos (by omega)]; omega
  · rw [N _ (by omega), N _ (by omega), N _ (by omega)]
    have := fp c hc
    have e : mFresh 7 = 0 := rfl
    omega
theorem bd_starts {b : Nat} {a : Nat → Nat} (h : zBd b a) (h2 : 1 ≤ a 2) (hb : b + 1 ≤ 20000) : zBd (b + 1) (mStarts a) := by
  obtain ⟨g0, g1, g2, g3, g4, g5, g6, g7, g8, g9, g10, g11, g12, g13, g14, g15, gl, gb, gd, gr, gp, gz⟩ := h
  unfold mStarts
  refine bd_ball hb ?_ ?_ ?_ ?_ ?_ ?_ ?_ ?_ (fun c hc => ?_) (fun c hc h2c => ?_)
  all_goals (try simp (disch := omega) only [um_n, um_s])
  all_goals (try omega)
  · obtain rfl | rfl | rfl | rfl : c = 0 ∨ c = 1 ∨ c = 2 ∨ c = 3 := by omega
    all_goals simp (disch := omega) only [um_n, um_s, and_true, Nat.reduceAdd]
    all_goals omega
  · obtain rfl | rfl | rfl | rfl : c = 0 ∨ c = 1 ∨ c = 2 ∨ c = 3 := by omega
    all_goals simp (disch := omega) only [um_n, um_s, and_self, Nat.reduceAdd]
