theorem bd_bump {b : Nat} {a : Nat → Nat} {i : Nat} (h : zBd b a) (hb' : b + 1 ≤ 20000) (hr : a 0 = 1) (hi : i < 3) : zBd (b + 1) (mBump a i).2 := by
  have h' := h
  obtain ⟨g0, g1, g2, g3, g4, g5, g6, g7, g8, g9, g10, g11, g12, g13, g14, g15, gl, gb, gd, gr, gp, gz⟩ := h
  obtain ⟨r1, r2, r3, r4, r5, r6⟩ := gr hr
  unfold mBump
  by_cases ht : a 11 = 1
  · rw [if_pos ht]
    refine zBd_step h' hb' hr (fun j hj => um_n (by omega)) ?_ ?_ ?_ ?_ ?_ ?_ ?_ (fun i hi => ?_) (fun i hi => ?_) (fun i hi => ?_) (fun c hc => ?_) (fun c hc hn => ⟨um_n (by omega), um_n (by omega)⟩)
    all_goals simp (disch := omega) only [um_n, um_s]
    all_goals (try omega)
    · exact gl i hi
    · have := r6 i hi; have := gb i hi; omega
    · exact gd i hi
    · have := gp c hc; omega
  · rw [if_neg ht]
    have hy : a (20 + i) * a 5 ≤ 200 * 6 := Nat.mul_le_mul (gb i hi).1 g6
    generalize a (20 + i) * a 5 = y at hy
    dsimp only
    refine zBd_step h' hb' hr (fun j hj => ?_) ?_ ?_ ?_ ?_ ?_ ?_ ?_ (fun i' hi' => ?_) (fun i' hi' => ?_) (fun i' hi' => ?_) (fun c hc => ?_) (fun c hc hn => by rw [um_n (by omega), um_n (by omega)]; exact mCS_o g4 (by omega) c hc hn)
    · simp (disch := omega) only [um_n, um_s, mCS_k]
    · simp (disch := omega) only [um_n, um_s, mCS_k]; omega
    · simp (disch := omega) only [um_n, um_s, mCS_k]; omega
    · simp (disch := omega) only [um_n, um_s, mCS_8]; omega
    · simp (disch := omega) only [um_n, um_s, mCS_k]; omega
    · simp (disch := omega) only [um_n, um_s, mCS_10]; omega
    · simp (disch := omega) only [um_n, um_s, mCS_k]; omega
    · simp (disch := omega) only [um_n, um_s, mCS_k]; omega
    · simp (disch := omega) only [um_n, um_s, mCS_k]; exact gl i' hi'
    · by_cases e : i' = i
      · subst e; rw [um_s]
        have := r6 i' hi'; have := gb i' hi'
        split
        all_goals omega
      · simp (disch := omega) only [um_n, um_s, mCS_k]
        have := r6 i' hi'; have := gb i' hi'; omega
    · simp (disch := omega) only [um_n, um_s, mCS_k]; exact gd i' hi'
    · simp (disch := omega) only [um_n, um_s, mCS_k]
      have := mCS_p (k := 1) (y := y) h' (by omega) c hc
      omega
theorem e_bump {b : Nat} {a : Nat → Nat} {i : Nat} (h : zBd b a) (hi : i < 3) : n_X9_hitsBumper (zF a) i = (nI (mBump a i).1, zF (mBump a i).2) := by
  have h' := h
  obtain ⟨g0, g1, g2, g3, g4, g5, g6, g7, g8, g9, g10, g11, g12, g13, g14, g15, gl, gb, gd, gr, gp, gz⟩ := h
  have bi := gb i hi
  obtain ⟨p1, p0, p2, p3⟩ := gp (a 3) (by omega)
  have e10 : ¬ nI 1 = 0 := by decide
  unfold n_X9_hitsBumper mBump
  rw [e_counts g11 g8]
  by_cases ht : a 11 = 1
  · simp (disch := omega) [lI0, lI1, lI2, lI3, lI4, lI5, lI6, lI8, lI9, lI10, lI20, lI50, lI100, lI200, lI400, lI300, lI5000, nI_add, pk_mul, nI_eq, nI_leI, nI_ltI, um_n, um_s, zF_at, zF_up, ht]
  · have sc : ∀ x, x ≤ 200 → n_X9_scores (zF (mCounts a)) 1 (nI x) = (nI (x * a 5), zF (mScores (mCounts a) 1 (x * a 5))) := by
      intro x hx
      have e3 : mCounts a 3 = a 3 := mCounts_k (by omega)
      have e5 : mCounts a 5 = a 5 := mCounts_k (by omega)
      have hm : x * a 5 ≤ 200 * 6 := Nat.mul_le_mul hx g6
      rw [e_scores (by omega) (by omega) (by rw [e3, e5, mCounts_k (by omega)]; omega) (by rw [e3, mCounts_k (by omega)]; omega) (by rw [e3, mCounts_k (by omega)]; omega), e5]
    simp only [ht, if_false, e10, zF_at]
    rw [sc _ bi.1]
    by_cases q : 200 ≤ a (20 + i)
    · simp (disch := omega) [lI0, lI1, lI2, lI3, lI4, lI5, lI6, lI8, lI9, lI10, lI20, lI50, lI100, lI200, lI400, lI300, lI5000, nI_add, pk_mul, nI_eq, nI_leI, nI_ltI, um_n, um_s, zF_at, zF_up, q]
    · simp (disch := omega) [lI0, lI1, lI2, lI3, lI4, lI5, lI6, lI8, lI9, lI10, lI20, lI50, lI100, lI200, lI400, lI300, lI5000, nI_add, pk_mul, nI_eq, nI_leI, nI_ltI, um_n, um_s, zF_at, zF_up, q]
theorem mBank_n {f : Nat → Nat} {j : Nat} (h3 : f 3 ≤ 3) (hj : j ≠ 6 ∧ j ≠ 7 ∧ ¬ (34 ≤ j ∧ j ≤ 37)) : mBank f j = f j := by
  unfold mBank mExtra
  split
  all_goals simp (disch := omega) only [um_n]
theorem mBank_6 {f : Nat → Nat} (h3 : f 3 ≤ 3) : mBank f 6 = f 6 + 1 := by
  unfold mBank mExtra
  split
  all_goals simp (disch := omega) only [um_n, um_s]
theorem mBank_7 {f : Nat → Nat} (h3 : f 3 ≤ 3) : mBank f 7 = f 7 + 3 := by
  unfold mBank mExtra
  split
  all_goals simp (disch := omega) only [um_n, um_s]
theorem mBank_34 {f : Nat → Nat} {c : Nat} (h3 : f 3 ≤ 3) (hc : c < 4) : mBank f (34 + c) = if f 6 + 1 = 2 ∧ c = f 3 then (if 3 ≤ f (34 + c) then f (34 + c) else f (34 + c) + 1) else f (34 + c) := by
  unfold mBank mExtra
  by_cases q : f 6 + 1 = 2
  · by_cases e : c = f 3
    · subst e
      simp (disch := omega) [um_n, um_s, q]
    · simp (disch := omega) [um_n, um_s, q, e]
  · simp (disch := omega) [um_n, um_s, q]
/-- the field behind a target's full bank -/
def zAllT (f : Nat → Nat) : Prop := ¬ f 24 = 0 ∧ ¬ f 25 = 0 ∧ ¬ f 26 = 0 ∧ ¬ f 27 = 0 ∧ ¬ f 28 = 0
theorem mFullT_p {f : Nat → Nat} (h : zAllT f) : mFullT f = mBank (um (um (um (um (um f 24 0) 25 0) 26 0) 27 0) 28 0) := by
  unfold mFullT
  rw [if_neg h.1, if_neg h.2.1, if_neg h.2.2.1, if_neg h.2.2.2.1, if_neg h.2.2.2.2]
theorem mFullT_q {f : Nat → Nat} (h : ¬ zAllT f) : mFullT f = f := by
  unfold mFullT
  repeat' split
  all_goals (first | rfl | (exfalso; exact h ⟨by assumption, by assumption, by assumption, by assumption, by assumption⟩))
theorem mFullT_n {f : Nat → Nat} {j : Nat} (h3 : f 3 ≤ 3) (hj : j ≠ 6 ∧ j ≠ 7 ∧ ¬ (24 ≤ j ∧ j ≤ 28) ∧ ¬ (34 ≤ j ∧ j ≤ 37)) : mFullT f j = f j := by
  by_cases h : zAllT f
  · rw [mFullT_p h]
    rw [mBank_n (by simp (disch := omega) only [um_n]; omega) (by omega)]
    simp (disch := omega) only [um_n]
  · rw [mFullT_q h]
theorem mFullT_6 {f : Nat → Nat} (h3 : f 3 ≤ 3) : mFullT f 6 ≤ f 6 + 1 := by
  by_cases h : zAllT f
  · rw [mFullT_p h, mBank_6 (by simp (disch := omega) only [um_n]; omega)]
    simp (disch := omega) only [um_n]
    omega
  · rw [mFullT_q h]; omega
theorem mFullT_7 {f : Nat → Nat} (h3 : f 3 ≤ 3) : mFullT f 7 ≤ f 7 + 3 := by
  by_cases h : zAllT f
  · rw [mFullT_p h, mBank_7 (by simp (disch := omega) only [um_n]; omega)]
    simp (disch := omega) only [um_n]
    omega
  · rw [mFullT_q h]; omega
theorem mFullT_24 {f : Nat → Nat} {i : Nat} (h3 : f 3 ≤ 3) (hf : f (24 + i) ≤ 1) (hi : i < 5) : mFullT f (24 + i) ≤ 1 := by
  by_cases h : zAllT f
  · rw [mFullT_p h, mBank_n (by simp (disch := omega) only [um_n]; omega) (by omega)]
    obtain rfl | rfl | rfl | rfl | rfl : i = 0 ∨ i = 1 ∨ i = 2 ∨ i = 3 ∨ i = 4 := by omega
    all_goals simp (disch := omega) only [um_n, um_s]
    all_goals omega
  · rw [mFullT_q h]; exact hf
theorem mFullT_34 {f : Nat → Nat} {c : Nat} (h3 : f 3 ≤ 3) (hf : f (34 + c) ≤ 3) (hc : c < 4) : mFullT f (34 + c) ≤ 3 := by
  by_cases h : zAllT f
  · rw [mFullT_p h, mBank_34 (by simp (disch := omega) only [um_n]; omega) hc]
    simp (disch := omega) only [um_n]
    repeat' split
    all_goals omega
  · rw [mFullT_q h]; exact hf
theorem mFullT_34o {f : Nat → Nat} {c : Nat} (h3 : f 3 ≤ 3) (hc : c < 4) (hn : c ≠ f 3) : mFullT f (34 + c) = f (34 + c) := by
  by_cases h : zAllT f
  · rw [mFullT_p h, mBank_34 (by simp (disch := omega) only [um_n]; omega) hc]
    simp (disch := omega) only [um_n]
    rw [if_neg (fun z => hn z.2)]
  · rw [mFullT_q h]
theorem bd_targ {b : Nat} {a : Nat → Nat} {i : Nat} (h : zBd b a) (hb' : b + 1 ≤ 20000) (hr : a 0 = 1) (hi : i < 5) : zBd (b + 1) (mTarg a i).2 := by
  have h' := h
  obtain ⟨g0, g1, g2, g3, g4, g5, g6, g7, g8, g9, g10, g11, g12, g13, g14, g15, gl, gb, gd, gr, gp, gz⟩ := h
  obtain ⟨r1, r2, r3, r4, r5, r6⟩ := gr hr
  unfold mTarg
  by_cases ht : a 11 = 1
  · rw [if_pos ht]
    refine zBd_step h' hb' hr (fun j hj => um_n (by omega)) ?_ ?_ ?_ ?_ ?_ ?_ ?_ (fun i hi => ?_) (fun i hi => ?_) (fun i hi => ?_) (fun c hc => ?_) (fun c hc hn => ⟨um_n (by omega), um_n (by omega)⟩)
    all_goals simp (disch := omega) only [um_n, um_s]
    all_goals (try omega)
    · exact gl i hi
    · have := r6 i hi; have := gb i hi; omega
    · exact gd i hi
    · have := gp c hc; omega
  · rw [if_neg ht]
    by_cases hd : a (24 + i) = 1
    · rw [if_pos hd]
      have hy : 20 * a 5 ≤ 1200 := by omega
      generalize 20 * a 5 = y at hy
      dsimp only
      refine zBd_step h' hb' hr (fun j hj => ?_) ?_ ?_ ?_ ?_ ?_ ?_ ?_ (fun i' hi' => ?_) (fun i' hi' => ?_) (fun i' hi' => ?_) (fun c hc => ?_) (fun c hc hn => mCS_o g4 (by omega) c hc hn)
      · simp (disch := omega) only [mCS_k]
      · simp (disch := omega) only [mCS_k]; omega
      · simp (disch := omega) only [mCS_k]; omega
      · simp (disch := omega) only [mCS_8]; omega
      · simp (disch := omega) only [mCS_k]; omega
      · simp (disch := omega) only [mCS_10]; omega
      · simp (disch := omega) only [mCS_k]; omega
      · simp (disch := omega) only [mCS_k]; omega
      · simp (disch := omega) only [mCS_k]; exact gl i' hi'
      · simp (disch := omega) only [mCS_k]
        have := r6 i' hi'; have := gb i' hi'; omega
      · simp (disch := omega) only [mCS_k]; exact gd i' hi'
      · simp (disch := omega) only [mCS_k]
        have := mCS_p (k := 2) (y := y) h' (by omega) c hc
        omega
    · rw [if_neg hd]
      have hy : 200 * a 5 ≤ 1200 := by omega
      generalize 200 * a 5 = y at hy
      dsimp only
      have F : ∀ j, j < 30 ∧ j ≠ 7 ∧ j ≠ 8 ∧ j ≠ 10 ∧ j ≠ 24 + i → um (um (mScores (mCounts a) 2 y) 7 (a 7 + 1)) (24 + i) 1 j = a j := fun j hj => by
        simp (disch := omega) only [um_n, mCS_k]
      have f3 : um (um (mScores (mCounts a) 2 y) 7 (a 7 + 1)) (24 + i) 1 3 ≤ 3 := by rw [F 3 (by omega)]; exact g4
      have P : ∀ j, 30 ≤ j → um (um (mScores (mCounts a) 2 y) 7 (a 7 + 1)) (24 + i) 1 j = mScores (mCounts a) 2 y j := fun j hj => by
        simp (disch := omega) only [um_n]
      have N := fun j hj => mFullT_n (f := um (um (mScores (mCounts a) 2 y) 7 (a 7 + 1)) (24 + i) 1) (j := j) f3 hj
      refine zBd_step h' hb' hr (fun j hj => ?_) ?_ ?_ ?_ ?_ ?_ ?_ ?_ (fun i' hi' => ?_) (fun i' hi' => ?_) (fun i' hi' => mFullT_24 f3 ?_ hi') (fun c hc => ?_) (fun c hc hn => by
        have o := mCS_o (y := y) (k := 2) g4 (by omega) c hc hn
        rw [N (30 + c) (by omega), mFullT_34o f3 hc (by rw [F 3 (by omega)]; exact hn), P _ (by omega), P _ (by omega)]
        exact o)
      · rw [N j (by omega), F j (by omega)]
      · rw [N 5 (by omega), F 5 (by omega)]; omega
      · have := mFullT_6 f3; rw [F 6 (by omega)] at this; exact this
      · rw [N 8 (by omega)]; simp (disch := omega) only [um_n, mCS_8]; omega
      · rw [N 9 (by omega), N 11 (by omega), F 9 (by omega), F 11 (by omega)]; omega
      · rw [N 10 (by omega)]; simp (disch := omega) only [um_n, mCS_10]; omega
      · rw [N 11 (by omega), F 11 (by omega)]; omega
      · rw [N 15 (by omega), F 15 (by omega)]; omega
      · rw [N _ (by omega), F _ (by omega)]; exact gl i' hi'
      · rw [N _ (by omega), F _ (by omega)]
        have := r6 i' hi'; have := gb i' hi'; omega
      · by_cases e : i' = i
        · subst e; rw [um_s]; omega
        · rw [F _ (by omega)]; exact gd i' hi'
      · have m7 := mFullT_7 f3
        rw [um_n (by omega), um_s] at m7
        obtain ⟨s1, s2, s3⟩ := mCS_p (k := 2) (y := y) h' (by omega) c hc
        rw [N (30 + c) (by omega), N (38 + c) (by omega), P _ (by omega), P _ (by omega)]
        refine ⟨by omega, mFullT_34 f3 (by rw [P _ (by omega)]; exact s2) hc, s3⟩
theorem bd_nudge {b : Nat} {a : Nat → Nat} {x : Nat} (h : zBd b a) (hb' : b + 1 ≤ 20000) (hr : a 0 = 1) : zBd (b + 1) (mNudge a x).2 := by
  have h' := h
  obtain ⟨g0, g1, g2, g3, g4, g5, g6, g7, g8, g9, g10, g11, g12, g13, g14, g15, gl, gb, gd, gr, gp, gz⟩ := h
  obtain ⟨r1, r2, r3, r4, r5, r6⟩ := gr hr
  unfold mNudge
  repeat' split
  all_goals refine zBd_step h' hb' hr (fun j hj => ?_) ?_ ?_ ?_ ?_ ?_ ?_ ?_ (fun i hi => ?_) (fun i hi => ?_) (fun i hi => ?_) (fun c hc => ?_) (fun c hc hn => ?_)
  all_goals (try simp (disch := omega) only [um_n, um_s])
  all_goals (try omega)
  all_goals first
    | exact gl i hi
    | exact gd i hi
    | (have := r6 i hi; have := gb i hi; omega)
    | (have := gp c hc; omega)
    | exact ⟨trivial, trivial⟩
    | exact ⟨rfl, rfl⟩
theorem e_nudge {b : Nat} {a : Nat → Nat} {x : Nat} (h : zBd b a) (hx : x ≤ 3) : n_X9_nudges (zF a) (nI x) = (nI (mNudge a x).1, zF (mNudge a x).2) := by
  obtain ⟨g0, g1, g2, g3, g4, g5, g6, g7, g8, g9, g10, g11, g12, g13, g14, g15, gl, gb, gd, gr, gp, gz⟩ := h
  have uu : ∀ x y, um (um a 8 x) 8 y = um a 8 y := fun x y => by
    funext j; unfold um; split <;> rfl
  unfold n_X9_nudges n_X9_isTilt mNudge
  by_cases ht : a 11 = 1
  · simp (disch := omega) [lI0, lI1, lI2, lI3, lI4, lI5, lI6, lI8, lI9, lI10, lI20, lI50, lI100, lI200, lI400, lI300, lI5000, nI_add, pk_mul, nI_eq, nI_leI, nI_ltI, um_n, um_s, zF_at, zF_up, ht]
  by_cases q : 5 ≤ a 8 + x
  · by_cases q3 : a 9 + 1 = 3
    · simp (disch := omega) [lI0, lI1, lI2, lI3, lI4, lI5, lI6, lI8, lI9, lI10, lI20, lI50, lI100, lI200, lI400, lI300, lI5000, nI_add, pk_mul, nI_eq, nI_leI, nI_ltI, um_n, um_s, zF_at, zF_up, ht, q, q3, uu]
    · simp (disch := omega) [lI0, lI1, lI2, lI3, lI4, lI5, lI6, lI8, lI9, lI10, lI20, lI50, lI100, lI200, lI400, lI300, lI5000, nI_add, pk_mul, nI_eq, nI_leI, nI_ltI, um_n, um_s, zF_at, zF_up, ht, q, q3, uu]
  · simp (disch := omega) [lI0, lI1, lI2, lI3, lI4, lI5, lI6, lI8, lI9, lI10, lI20, lI50, lI100, lI200, lI400, lI300, lI5000, nI_add, pk_mul, nI_eq, nI_leI, nI_ltI, um_n, um_s, zF_at, zF_up, ht, q]
