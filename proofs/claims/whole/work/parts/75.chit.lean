section CLH
variable {b : Nat} {a : Nat → Nat} {p1 p2 p3 p4 p5 : Int32} {fs fx : Nat → Int32} {u1 u2 u3 u4 u5 u6 u7 u8 : Int32} {fl fb fd : Nat → Int32} {r1 : Int32} {fr0 fr1 fr2 : Nat → Int32} {w1 w2 w3 : Int32} {fp : Nat → Int32}
theorem f_lane (h : zAg a p1 p2 p3 p4 p5 fs fx u1 u2 u3 u4 u5 u6 u7 u8 fl fb fd r1 fr0 fr1 fr2 w1 w2 w3 fp) (hB : zBd b a) (hr : a 0 = 1) {i : Nat} (hi : i < 4) :
    (n_X6_playLane p4 fs fx u1 u4 u6 u7 fl w1 fp i).1 = nI (mLane a i).1 ∧ zAg (mLane a i).2 p1 p2 p3 p4 p5 (n_X6_playLane p4 fs fx u1 u4 u6 u7 fl w1 fp i).2.1 (n_X6_playLane p4 fs fx u1 u4 u6 u7 fl w1 fp i).2.2.1 (n_X6_playLane p4 fs fx u1 u4 u6 u7 fl w1 fp i).2.2.2.1 u2 u3 (n_X6_playLane p4 fs fx u1 u4 u6 u7 fl w1 fp i).2.2.2.2.1 u5 (n_X6_playLane p4 fs fx u1 u4 u6 u7 fl w1 fp i).2.2.2.2.2.1 u7 u8 (n_X6_playLane p4 fs fx u1 u4 u6 u7 fl w1 fp i).2.2.2.2.2.2.1 fb fd r1 fr0 fr1 fr2 (n_X6_playLane p4 fs fx u1 u4 u6 u7 fl w1 fp i).2.2.2.2.2.2.2.1 w2 w3 (n_X6_playLane p4 fs fx u1 u4 u6 u7 fl w1 fp i).2.2.2.2.2.2.2.2 := by
  have h' := h
  have hB' := hB
  obtain ⟨e1, e2, e3, e4, e5, hfs, hfx, eu1, eu2, eu3, eu4, eu5, eu6, eu7, eu8, hfl, hfb, hfd, er, hR, ew1, ew2, ew3, hfp⟩ := h
  obtain ⟨g0, g1, g2, g3, g4, g5, g6, g7, g8, g9, g10, g11, g12, g13, g14, g15, gl, gb, gd, gr, gp, gz⟩ := hB
  obtain ⟨r1', r2', r3', r4', r5', r6'⟩ := gr hr
  have K : ∀ j, j < 5 ∨ 12 ≤ j ∧ j < 16 ∨ 46 ≤ j → (mLane a i).2 j = a j := fun j hj => mLane_k g4 hi hj
  have k0 := K 0 (by omega)
  have k1 := K 1 (by omega)
  have k2 := K 2 (by omega)
  have k3 := K 3 (by omega)
  have k4 := K 4 (by omega)
  have k12 := K 12 (by omega)
  have k13 := K 13 (by omega)
  have k14 := K 14 (by omega)
  have k15 := K 15 (by omega)
  have kR := zRw_k hR (fun j hj => K j (by omega))
  have eu1' : u1 = nI (a 5) := by rw [eu1, if_neg (by omega)]
  unfold zAg
  rw [k0, k1, k2, k3, k4, k12, k13, k14, k15]
  by_cases ht : a 11 = 1
  · have eM : mLane a i = (0, um a 10 (a 10 + 1)) := by unfold mLane; rw [if_pos ht]
    have eC : n_X1_strikeLane u1 u4 u6 u7 fl i = (0, u1, nI (a 8), nI (a 10 + 1), fl) := by
      unfold n_X1_strikeLane
      rw [eu4, eu6, eu7, c_count (by omega) g11, if_pos ht, if_neg (by rw [ht]; decide)]
    obtain ⟨A1, A2, A3, A4⟩ := f_award h' hB' 0 0 (by omega) (by omega) a (fun _ _ _ => rfl) rfl
    have z := mScores_0 (a := a) (k := 0) (by omega) g4 (gp (a 3) (by omega)).2.2.2
    have U : ∀ j, j ≠ 10 → um a 10 (a 10 + 1) j = a j := fun j hj => um_n hj
    unfold n_X6_playLane
    rw [eC, eM]
    dsimp only
    rw [lI0]
    refine ⟨rfl, e1, e2, e3, e4, e5, fun j hj => ?_, fun j hj => ?_, ?_, ?_, ?_, ?_, ?_, ?_, ?_, eu8, fun j hj => ?_, fun j hj => ?_, fun j hj => ?_, er, ?_, ?_, ew2, ew3, fun j hj => ?_⟩
    · rw [A1 j hj, (z j hj).1, U _ (by omega)]
    · rw [A2 j hj, (z j hj).2.1, U _ (by omega)]
    · simp (disch := omega) only [um_n]; exact eu1
    · rw [U _ (by omega)]; exact eu2
    · rw [U _ (by omega)]; exact eu3
    · rw [U _ (by omega)]
    · rw [U _ (by omega)]; exact eu5
    · rw [um_s]
    · rw [U _ (by omega)]; exact eu7
    · rw [U _ (by omega)]; exact hfl j hj
    · rw [U _ (by omega)]; exact hfb j hj
    · rw [U _ (by omega)]; exact hfd j hj
    · rw [eM] at kR; exact kR
    · have W := mS_W (a := a) (k := 0) (y := 0) (by omega) g4
      rw [A3, W, U _ (by omega), U _ (by omega), U _ (by omega), U _ (by omega)]; rfl
    · rw [A4 j hj, (z j hj).2.2, U _ (by omega)]
  · have e11 : a 11 = 0 := by omega
    have li := gl i hi
    have fi := hfl i hi
    have h0 : nI (a 11) = 0 := by rw [e11]; rfl
    obtain ⟨y, hy, eM, eC⟩ : ∃ y, y ≤ 600 ∧ mLane a i = (y, mFullL (um (mScores (mCounts a) 0 y) (16 + i) 1)) ∧ n_X1_strikeLane u1 u4 u6 u7 fl i = (if n_X8_allTrue4 (upd fl i 1) = 0 then (nI y, u1, nI (a 8 - 1), nI (a 10 + 1), upd fl i 1) else (nI y, (if 6 < (u1 + 1) then 6 else u1 + 1), nI (a 8 - 1), nI (a 10 + 1), upd (upd (upd (upd (upd fl i 1) 0 0) 1 0) 2 0) 3 0)) := by
      by_cases q : a (16 + i) = 1
      · refine ⟨10 * a 5, by omega, by unfold mLane; rw [if_neg ht, if_pos q], ?_⟩
        have q0 : ¬ fl i = 0 := by rw [fi, q]; decide
        have ey : (10 : Int32) * u1 = nI (10 * a 5) := by rw [eu1', lI10, pk_mul]
        unfold n_X1_strikeLane
        rw [eu4, eu6, eu7, c_count (by omega) g11, if_neg ht, if_pos h0, if_neg q0, ey]
      · refine ⟨100 * a 5, by omega, by unfold mLane; rw [if_neg ht, if_neg q], ?_⟩
        have q0 : fl i = 0 := by rw [fi, show a (16 + i) = 0 from by omega]; rfl
        have ey : (100 : Int32) * u1 = nI (100 * a 5) := by rw [eu1', lI100, pk_mul]
        unfold n_X1_strikeLane
        rw [eu4, eu6, eu7, c_count (by omega) g11, if_neg ht, if_pos h0, if_pos q0, ey]
    have f3 : mCounts a 3 = a 3 := mCounts_k (by omega)
    obtain ⟨A1, A2, A3, A4⟩ := f_award h' hB' 0 y (by omega) (by omega) (mCounts a) (fun j h1 h2 => mCounts_k (by omega)) f3
    generalize hS : mScores (mCounts a) 0 y = S at *
    have SK : ∀ j, j < 30 ∧ j ≠ 8 ∧ j ≠ 10 ∨ 46 ≤ j → S j = a j := fun j hj => by rw [← hS]; exact mCS_k (by omega) g4 hj
    have S8 : S 8 = a 8 - 1 := by rw [← hS]; exact mCS_8 (by omega) g4
    have S10 : S 10 = a 10 + 1 := by rw [← hS]; exact mCS_10 (by omega) g4
    have FL : ∀ j, j < 4 → upd fl i 1 j = nI (um S (16 + i) 1 (16 + j)) := by
      intro j hj
      by_cases e : j = i
      · subst e; rw [pk_us, um_s]; rfl
      · rw [pk_un e, um_n (by omega), SK _ (by omega)]; exact hfl j hj
    have FB : ∀ j, j < 4 → um S (16 + i) 1 (16 + j) ≤ 1 := by
      intro j hj
      by_cases e : j = i
      · subst e; rw [um_s]; omega
      · rw [um_n (by omega), SK _ (by omega)]; exact gl j hj
    have C4 := c_all4 FL FB
    have FN : ∀ j, j ≠ 5 ∧ ¬ (16 ≤ j ∧ j ≤ 19) → mFullL (um S (16 + i) 1) j = S j := fun j hj => by
      rw [mFullL_n hj, um_n (by omega)]
    unfold n_X6_playLane
    rw [eC, eM]
    rcases C4 with ⟨c1, c2⟩ | ⟨c1, c2⟩
    · simp only [if_pos c1]
      refine ⟨trivial, e1, e2, e3, e4, e5, fun j hj => ?_, fun j hj => ?_, ?_, ?_, ?_, ?_, ?_, ?_, ?_, eu8, fun j hj => ?_, fun j hj => ?_, fun j hj => ?_, er, ?_, ?_, ew2, ew3, fun j hj => ?_⟩
      · rw [A1 j hj, FN _ (by omega)]
      · rw [A2 j hj, FN _ (by omega)]
      · rw [c2, um_n (by omega), SK _ (by omega)]; exact eu1
      · rw [FN _ (by omega), SK _ (by omega)]; exact eu2
      · rw [FN _ (by omega), SK _ (by omega)]; exact eu3
      · rw [FN _ (by omega), S8]
      · rw [FN _ (by omega), SK _ (by omega)]; exact eu5
      · rw [FN _ (by omega), S10]
      · rw [FN _ (by omega), SK _ (by omega)]; exact eu7
      · rw [c2]; exact FL j hj
      · rw [FN _ (by omega), SK _ (by omega)]; exact hfb j hj
      · rw [FN _ (by omega), SK _ (by omega)]; exact hfd j hj
      · rw [eM] at kR; exact kR
      · rw [A3, FN _ (by omega), FN _ (by omega), FN _ (by omega), FN _ (by omega)]
      · rw [A4 j hj, FN _ (by omega)]
    · have c1' : ¬ n_X8_allTrue4 (upd fl i 1) = 0 := by rw [c1]; decide
      simp only [if_neg c1']
      refine ⟨trivial, e1, e2, e3, e4, e5, fun j hj => ?_, fun j hj => ?_, ?_, ?_, ?_, ?_, ?_, ?_, ?_, eu8, fun j hj => ?_, fun j hj => ?_, fun j hj => ?_, er, ?_, ?_, ew2, ew3, fun j hj => ?_⟩
      · rw [A1 j hj, FN _ (by omega)]
      · rw [A2 j hj, FN _ (by omega)]
      · rw [c2, um_s, um_n (by omega), SK 5 (by omega), eu1', nI_1]
        by_cases q : 6 ≤ a 5
        · rw [if_pos q, lI6, if_pos ((nI_ltI (by omega) (by omega)).mpr (by omega)), if_neg (by omega)]
          congr 1; omega
        · rw [if_neg q, lI6, if_neg (fun z => by have := (nI_ltI (by omega) (by omega)).mp z; omega), if_neg (by omega)]
      · rw [FN _ (by omega), SK _ (by omega)]; exact eu2
      · rw [FN _ (by omega), SK _ (by omega)]; exact eu3
      · rw [FN _ (by omega), S8]
      · rw [FN _ (by omega), SK _ (by omega)]; exact eu5
      · rw [FN _ (by omega), S10]
      · rw [FN _ (by omega), SK _ (by omega)]; exact eu7
      · rw [c2]
        obtain rfl | rfl | rfl | rfl : j = 0 ∨ j = 1 ∨ j = 2 ∨ j = 3 := by omega
        all_goals simp (disch := omega) only [pk_us, pk_un, um_n, um_s, Nat.reduceAdd]
        all_goals rfl
      · rw [FN _ (by omega), SK _ (by omega)]; exact hfb j hj
      · rw [FN _ (by omega), SK _ (by omega)]; exact hfd j hj
      · rw [eM] at kR; exact kR
      · rw [A3, FN _ (by omega), FN _ (by omega), FN _ (by omega), FN _ (by omega)]
      · rw [A4 j hj, FN _ (by omega)]
end CLH
