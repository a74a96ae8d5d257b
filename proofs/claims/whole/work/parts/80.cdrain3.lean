section CLE
variable {b : Nat} {a : Nat → Nat} {p1 p2 p3 p4 p5 : Int32} {fs fx : Nat → Int32} {u1 u2 u3 u4 u5 u6 u7 u8 : Int32} {fl fb fd : Nat → Int32} {r1 : Int32} {fr0 fr1 fr2 : Nat → Int32} {w1 w2 w3 : Int32} {fp : Nat → Int32}
theorem zRw_eq {a a' : Nat → Nat} {x y z : Nat → Int32} (h : zRw a x y z) (hk : ∀ j, 46 ≤ j → a' j = a j) : zRw a' x y z := zRw_k h hk
theorem f_drain (h : zAg a p1 p2 p3 p4 p5 fs fx u1 u2 u3 u4 u5 u6 u7 u8 fl fb fd r1 fr0 fr1 fr2 w1 w2 w3 fp) (hI : zInv b a) (hb' : b + 1 ≤ 20000) (hr0 : a 0 = 1) :
    (n_X6_loseBall p1 p2 p3 p4 p5 fs fx u1 u2 u3 u4 u5 u6 u7 u8 fl fb fd r1 fr0 fr1 fr2 w1 w2 fp).1 = nI (mDrain a).1 ∧ zAg (mDrain a).2 p1 (n_X6_loseBall p1 p2 p3 p4 p5 fs fx u1 u2 u3 u4 u5 u6 u7 u8 fl fb fd r1 fr0 fr1 fr2 w1 w2 fp).2.1 p3 (n_X6_loseBall p1 p2 p3 p4 p5 fs fx u1 u2 u3 u4 u5 u6 u7 u8 fl fb fd r1 fr0 fr1 fr2 w1 w2 fp).2.2.1 (n_X6_loseBall p1 p2 p3 p4 p5 fs fx u1 u2 u3 u4 u5 u6 u7 u8 fl fb fd r1 fr0 fr1 fr2 w1 w2 fp).2.2.2.1 (n_X6_loseBall p1 p2 p3 p4 p5 fs fx u1 u2 u3 u4 u5 u6 u7 u8 fl fb fd r1 fr0 fr1 fr2 w1 w2 fp).2.2.2.2.1 (n_X6_loseBall p1 p2 p3 p4 p5 fs fx u1 u2 u3 u4 u5 u6 u7 u8 fl fb fd r1 fr0 fr1 fr2 w1 w2 fp).2.2.2.2.2.1 (n_X6_loseBall p1 p2 p3 p4 p5 fs fx u1 u2 u3 u4 u5 u6 u7 u8 fl fb fd r1 fr0 fr1 fr2 w1 w2 fp).2.2.2.2.2.2.1 (n_X6_loseBall p1 p2 p3 p4 p5 fs fx u1 u2 u3 u4 u5 u6 u7 u8 fl fb fd r1 fr0 fr1 fr2 w1 w2 fp).2.2.2.2.2.2.2.1 (n_X6_loseBall p1 p2 p3 p4 p5 fs fx u1 u2 u3 u4 u5 u6 u7 u8 fl fb fd r1 fr0 fr1 fr2 w1 w2 fp).2.2.2.2.2.2.2.2.1 (n_X6_loseBall p1 p2 p3 p4 p5 fs fx u1 u2 u3 u4 u5 u6 u7 u8 fl fb fd r1 fr0 fr1 fr2 w1 w2 fp).2.2.2.2.2.2.2.2.2.1 (n_X6_loseBall p1 p2 p3 p4 p5 fs fx u1 u2 u3 u4 u5 u6 u7 u8 fl fb fd r1 fr0 fr1 fr2 w1 w2 fp).2.2.2.2.2.2.2.2.2.2.1 (n_X6_loseBall p1 p2 p3 p4 p5 fs fx u1 u2 u3 u4 u5 u6 u7 u8 fl fb fd r1 fr0 fr1 fr2 w1 w2 fp).2.2.2.2.2.2.2.2.2.2.2.1 (n_X6_loseBall p1 p2 p3 p4 p5 fs fx u1 u2 u3 u4 u5 u6 u7 u8 fl fb fd r1 fr0 fr1 fr2 w1 w2 fp).2.2.2.2.2.2.2.2.2.2.2.2.1 (n_X6_loseBall p1 p2 p3 p4 p5 fs fx u1 u2 u3 u4 u5 u6 u7 u8 fl fb fd r1 fr0 fr1 fr2 w1 w2 fp).2.2.2.2.2.2.2.2.2.2.2.2.2.1 (n_X6_loseBall p1 p2 p3 p4 p5 fs fx u1 u2 u3 u4 u5 u6 u7 u8 fl fb fd r1 fr0 fr1 fr2 w1 w2 fp).2.2.2.2.2.2.2.2.2.2.2.2.2.2.1 (n_X6_loseBall p1 p2 p3 p4 p5 fs fx u1 u2 u3 u4 u5 u6 u7 u8 fl fb fd r1 fr0 fr1 fr2 w1 w2 fp).2.2.2.2.2.2.2.2.2.2.2.2.2.2.2.1 (n_X6_loseBall p1 p2 p3 p4 p5 fs fx u1 u2 u3 u4 u5 u6 u7 u8 fl fb fd r1 fr0 fr1 fr2 w1 w2 fp).2.2.2.2.2.2.2.2.2.2.2.2.2.2.2.2.1 (n_X6_loseBall p1 p2 p3 p4 p5 fs fx u1 u2 u3 u4 u5 u6 u7 u8 fl fb fd r1 fr0 fr1 fr2 w1 w2 fp).2.2.2.2.2.2.2.2.2.2.2.2.2.2.2.2.2.1 (n_X6_loseBall p1 p2 p3 p4 p5 fs fx u1 u2 u3 u4 u5 u6 u7 u8 fl fb fd r1 fr0 fr1 fr2 w1 w2 fp).2.2.2.2.2.2.2.2.2.2.2.2.2.2.2.2.2.2.1 (n_X6_loseBall p1 p2 p3 p4 p5 fs fx u1 u2 u3 u4 u5 u6 u7 u8 fl fb fd r1 fr0 fr1 fr2 w1 w2 fp).2.2.2.2.2.2.2.2.2.2.2.2.2.2.2.2.2.2.2.1 (n_X6_loseBall p1 p2 p3 p4 p5 fs fx u1 u2 u3 u4 u5 u6 u7 u8 fl fb fd r1 fr0 fr1 fr2 w1 w2 fp).2.2.2.2.2.2.2.2.2.2.2.2.2.2.2.2.2.2.2.2.1 (n_X6_loseBall p1 p2 p3 p4 p5 fs fx u1 u2 u3 u4 u5 u6 u7 u8 fl fb fd r1 fr0 fr1 fr2 w1 w2 fp).2.2.2.2.2.2.2.2.2.2.2.2.2.2.2.2.2.2.2.2.2.1 (n_X6_loseBall p1 p2 p3 p4 p5 fs fx u1 u2 u3 u4 u5 u6 u7 u8 fl fb fd r1 fr0 fr1 fr2 w1 w2 fp).2.2.2.2.2.2.2.2.2.2.2.2.2.2.2.2.2.2.2.2.2.2.1 w3 (n_X6_loseBall p1 p2 p3 p4 p5 fs fx u1 u2 u3 u4 u5 u6 u7 u8 fl fb fd r1 fr0 fr1 fr2 w1 w2 fp).2.2.2.2.2.2.2.2.2.2.2.2.2.2.2.2.2.2.2.2.2.2.2 := by
  have h' := h
  obtain ⟨hB, hr⟩ := hI
  have hB' := hB
  obtain ⟨e1, e2, e3, e4, e5, hfs, hfx, eu1, eu2, eu3, eu4, eu5, eu6, eu7, eu8, hfl, hfb, hfd, er, hR, ew1, ew2, ew3, hfp⟩ := h
  obtain ⟨g0, g1, g2, g3, g4, g5, g6, g7, g8, g9, g10, g11, g12, g13, g14, g15, gl, gb, gd, gr, gp, gz⟩ := hB
  obtain ⟨r1', r2', r3', r4', r5', r6'⟩ := gr hr0
  have eu1' : u1 = nI (a 5) := by rw [eu1, if_neg (by omega)]
  have t0 : u7 = 0 ↔ a 11 = 0 := by rw [eu7, lI0]; exact nI_eq (by omega) (by omega)
  have t10 : 3 < u6 ↔ 3 < a 10 := by rw [eu6, lI3]; exact nI_ltI (by omega) (by omega)
  have t12 : u8 = 0 ↔ a 12 = 0 := by rw [eu8, lI0]; exact nI_eq (by omega) (by omega)
  have h10 : ¬ (1 : Int32) = 0 := by decide
  have sv : n_X1_canBeSaved u6 u7 u8 = if a 11 = 0 ∧ a 10 ≤ 3 ∧ a 12 = 0 then 1 else 0 := by
    unfold n_X1_canBeSaved
    by_cases q1 : a 11 = 0
    · rw [if_pos (t0.mpr q1)]
      by_cases q2 : 3 < a 10
      · rw [if_pos (t10.mpr q2), if_neg (by omega)]
      · rw [if_neg (fun z => q2 (t10.mp z))]
        by_cases q3 : a 12 = 0
        · rw [if_pos (t12.mpr q3), if_pos (by omega)]
        · rw [if_neg (fun z => q3 (t12.mp z)), if_neg (by omega)]
    · rw [if_neg (fun z => q1 (t0.mp z)), if_neg (by omega)]
  have hw2 : w2 + 1 = nI (a 14 + 1) := by rw [ew2, nI_1]
  unfold n_X6_loseBall
  rw [sv]
  by_cases q : a 11 = 0 ∧ a 10 ≤ 3 ∧ a 12 = 0
  · have eM : mDrain a = (0, um a 12 1) := by unfold mDrain; rw [if_pos q]
    have U : ∀ j, j ≠ 12 → um a 12 1 j = a j := fun j hj => um_n hj
    have kR := zRw_k hR (fun j hj => U j (by omega))
    have k5 := U 5 (by omega)
    rw [eM]
    simp only [if_pos q, h10, if_false]
    refine ⟨rfl, ?_⟩
    unfold zAg
    rw [U 0 (by omega), U 1 (by omega), U 2 (by omega), U 3 (by omega), U 4 (by omega), U 6 (by omega), U 7 (by omega), U 8 (by omega), U 9 (by omega), U 10 (by omega), U 11 (by omega), um_s, U 13 (by omega), U 14 (by omega), U 15 (by omega), U 42 (by omega), U 43 (by omega), U 44 (by omega), U 45 (by omega)]
    refine ⟨e1, e2, e3, e4, e5, fun j hj => ?_, fun j hj => ?_, ?_, eu2, eu3, eu4, eu5, eu6, eu7, rfl, fun j hj => ?_, fun j hj => ?_, fun j hj => ?_, er, kR, ew1, ew2, ew3, fun j hj => ?_⟩
    · rw [U _ (by omega)]; exact hfs j hj
    · rw [U _ (by omega)]; exact hfx j hj
    · simp only [k5]; exact eu1
    · rw [U _ (by omega)]; exact hfl j hj
    · rw [U _ (by omega)]; exact hfb j hj
    · rw [U _ (by omega)]; exact hfd j hj
    · rw [U _ (by omega)]; exact hfp j hj
  · simp only [if_neg q, if_true]
    have dl : ∀ j, j ≠ 14 → um a 14 (a 14 + 1) j = a j := fun j hj => um_n hj
    -- points and the state behind the award
    obtain ⟨y, hy, eM, eC⟩ : ∃ y, y ≤ 600 * a 7 ∧ ((mDrain a).1 = y ∧ ((mDrain a).2 = mFollow (mScores (um a 14 (a 14 + 1)) 3 y) ∨ y = 0 ∧ (mDrain a).2 = mFollow (um a 14 (a 14 + 1)))) ∧ n_X1_bonusPoints u1 u3 u7 = nI y := by
      unfold mDrain n_X1_bonusPoints
      rw [if_neg q]
      by_cases q1 : a 11 = 1
      · refine ⟨0, by omega, ?_, ?_⟩
        · rw [if_pos q1]; exact ⟨rfl, Or.inr ⟨rfl, rfl⟩⟩
        · rw [if_neg (fun z => by have := t0.mp z; omega)]; rfl
      · refine ⟨100 * a 7 * a 5, ?_, ?_, ?_⟩
        · have := Nat.mul_le_mul_left (100 * a 7) g6
          omega
        · rw [if_neg q1]; exact ⟨rfl, Or.inl rfl⟩
        · rw [if_pos (t0.mpr (by omega)), eu3, eu1', lI100, pk_mul, pk_mul]
    have gp3 := gp (a 3) (by omega)
    have d3 : um a 14 (a 14 + 1) 3 = a 3 := dl 3 (by omega)
    -- the state behind the award, as one function
    obtain ⟨S, hS, SK, S14, S30, S34, S42, SR⟩ : ∃ S, (mDrain a).2 = mFollow S ∧ (∀ j, j < 30 ∨ 46 ≤ j → j ≠ 14 → S j = a j) ∧ S 14 = a 14 + 1 ∧ (∀ c, c < 4 → S (30 + c) = mScores (um a 14 (a 14 + 1)) 3 y (30 + c)) ∧ (∀ c, c < 4 → S (34 + c) = mScores (um a 14 (a 14 + 1)) 3 y (34 + c)) ∧ (∀ c, c < 4 → S (42 + c) = mScores (um a 14 (a 14 + 1)) 3 y (42 + c)) ∧ (∀ c, c < 4 → S (38 + c) = mScores (um a 14 (a 14 + 1)) 3 y (38 + c)) := by
      rcases eM.2 with e | ⟨e0, e⟩
      · refine ⟨mScores (um a 14 (a 14 + 1)) 3 y, e, fun j hj h14 => ?_, ?_, fun c hc => rfl, fun c hc => rfl, fun c hc => rfl, fun c hc => rfl⟩
        · rw [mScores_k (by omega) (by omega) hj, dl j h14]
        · rw [mScores_k (by omega) (by omega) (by omega), um_s]
      · have z := mScores_0 (a := um a 14 (a 14 + 1)) (k := 3) (by omega) (by omega) (by rw [d3, dl _ (by omega), dl _ (by omega)]; exact gp3.2.2.2)
        refine ⟨um a 14 (a 14 + 1), e, fun j hj h14 => dl j h14, um_s, fun c hc => ?_, fun c hc => ?_, fun c hc => ?_, fun c hc => ?_⟩
        · rw [e0]; exact (z c hc).1.symm
        · rw [e0]; exact (z c hc).2.1.symm
        · rw [e0]; exact (z c hc).2.2.symm
        · rw [e0, mScores_38 (by omega) (by omega) (by omega), d3]
          rw [if_neg]
          rintro ⟨q1, q2, q3⟩
          rw [dl _ (by omega)] at q2 q3
          have := gp c hc
          omega
    obtain ⟨A1, A2, A3, A4⟩ := f_award h' hB' 3 y (by omega) (by omega) (um a 14 (a 14 + 1)) (fun j h1 h2 => dl j (by omega)) d3
    rw [eC]
    generalize n_X6_award p4 fs fx w1 fp 3 (nI y) = o4 at *
    have s42 := S42 0 (by omega)
    have s43 := S42 1 (by omega)
    have s44 := S42 2 (by omega)
    have s45 := S42 3 (by omega)
    simp only [Nat.reduceAdd] at s42 s43 s44 s45
    have s5 := SK 5 (by omega) (by omega)
    have hAg : zAg S p1 p2 p3 p4 p5 o4.1 o4.2.1 u1 u2 u3 u4 u5 u6 u7 u8 fl fb fd r1 fr0 fr1 fr2 o4.2.2.1 (w2 + 1) w3 o4.2.2.2 := by
      unfold zAg
      rw [SK 0 (by omega) (by omega), SK 1 (by omega) (by omega), SK 2 (by omega) (by omega), SK 3 (by omega) (by omega), SK 4 (by omega) (by omega), SK 6 (by omega) (by omega), SK 7 (by omega) (by omega), SK 8 (by omega) (by omega), SK 9 (by omega) (by omega), SK 10 (by omega) (by omega), SK 11 (by omega) (by omega), SK 12 (by omega) (by omega), SK 13 (by omega) (by omega), S14, SK 15 (by omega) (by omega), s42, s43, s44, s45]
      refine ⟨e1, e2, e3, e4, e5, fun j hj => ?_, fun j hj => ?_, ?_, eu2, eu3, eu4, eu5, eu6, eu7, eu8, fun j hj => ?_, fun j hj => ?_, fun j hj => ?_, er, zRw_k hR (fun j hj => SK j (by omega) (by omega)), A3, hw2, ew3, fun j hj => ?_⟩
      · rw [S30 j hj]; exact A1 j hj
      · rw [S34 j hj]; exact A2 j hj
      · simp only [s5]; exact eu1
      · rw [SK _ (by omega) (by omega)]; exact hfl j hj
      · rw [SK _ (by omega) (by omega)]; exact hfb j hj
      · rw [SK _ (by omega) (by omega)]; exact hfd j hj
      · rw [S42 j hj]; exact A4 j hj
    have hPd : zPd (b + 1) S := by
      refine ⟨by rw [SK 0 (by omega) (by omega)]; omega, by rw [SK 1 (by omega) (by omega)]; omega, by rw [SK 2 (by omega) (by omega)]; omega, by rw [SK 2 (by omega) (by omega)]; omega, by rw [SK 2 (by omega) (by omega), SK 3 (by omega) (by omega)]; omega, by rw [SK 4 (by omega) (by omega)]; omega, by rw [SK 4 (by omega) (by omega)]; omega, by rw [SK 13 (by omega) (by omega)]; omega, by rw [S14]; omega, by rw [SK 15 (by omega) (by omega)]; omega, fun c hc => ?_, fun c hc h2c => ?_⟩
      · have := gp c hc
        have u := mScores_p (b := b) (a := um a 14 (a 14 + 1)) (k := 3) (y := y) (by omega) (by omega) c hc (by rw [dl _ (by omega), dl _ (by omega), dl _ (by omega)]; exact this.2.2)
        rw [S30 c hc, S34 c hc, SR c hc]
        refine ⟨?_, u⟩
        rw [mScores_30 (by omega) (by omega) (by omega), d3, dl _ (by omega)]
        split
        all_goals omega
      · rw [SK 2 (by omega) (by omega)] at h2c
        rw [S30 c hc, S34 c hc, mScores_30 (by omega) (by omega) (by omega), mScores_34 (by omega) (by omega) (by omega), d3, if_neg (by omega), if_neg (by omega), dl _ (by omega), dl _ (by omega)]
        exact gz c hc h2c
    have hBr : zBr (b + 1) S := zBr_up (zBr_k hr (SK 13 (by omega) (by omega)) (by rw [SK 0 (by omega) (by omega), SK 1 (by omega) (by omega)]; omega) (fun j hj => SK j (by omega) (by omega))) (by omega)
    have F := f_next hAg hb' hPd hBr
    rw [eM.1, hS]
    exact ⟨rfl, F⟩
end CLE
