section CLB
variable {b : Nat} {a : Nat → Nat} {p1 p2 p3 p4 p5 : Int32} {fs fx : Nat → Int32} {u1 u2 u3 u4 u5 u6 u7 u8 : Int32} {fl fb fd : Nat → Int32} {r1 : Int32} {fr0 fr1 fr2 : Nat → Int32} {w1 w2 w3 : Int32} {fp : Nat → Int32}
theorem f_bump (h : zAg a p1 p2 p3 p4 p5 fs fx u1 u2 u3 u4 u5 u6 u7 u8 fl fb fd r1 fr0 fr1 fr2 w1 w2 w3 fp) (hB : zBd b a) (hr : a 0 = 1) {i : Nat} (hi : i < 3) :
    (n_X6_playBumper p4 fs fx u1 u4 u6 u7 fb w1 fp i).1 = nI (mBump a i).1 ∧ zAg (mBump a i).2 p1 p2 p3 p4 p5 (n_X6_playBumper p4 fs fx u1 u4 u6 u7 fb w1 fp i).2.1 (n_X6_playBumper p4 fs fx u1 u4 u6 u7 fb w1 fp i).2.2.1 u1 u2 u3 (n_X6_playBumper p4 fs fx u1 u4 u6 u7 fb w1 fp i).2.2.2.1 u5 (n_X6_playBumper p4 fs fx u1 u4 u6 u7 fb w1 fp i).2.2.2.2.1 u7 u8 fl (n_X6_playBumper p4 fs fx u1 u4 u6 u7 fb w1 fp i).2.2.2.2.2.1 fd r1 fr0 fr1 fr2 (n_X6_playBumper p4 fs fx u1 u4 u6 u7 fb w1 fp i).2.2.2.2.2.2.1 w2 w3 (n_X6_playBumper p4 fs fx u1 u4 u6 u7 fb w1 fp i).2.2.2.2.2.2.2 := by
  have h' := h
  have hB' := hB
  obtain ⟨e1, e2, e3, e4, e5, hfs, hfx, eu1, eu2, eu3, eu4, eu5, eu6, eu7, eu8, hfl, hfb, hfd, er, hR, ew1, ew2, ew3, hfp⟩ := h
  obtain ⟨g0, g1, g2, g3, g4, g5, g6, g7, g8, g9, g10, g11, g12, g13, g14, g15, gl, gb, gd, gr, gp, gz⟩ := hB
  obtain ⟨r1', r2', r3', r4', r5', r6'⟩ := gr hr
  have K : ∀ j, j < 5 ∨ 12 ≤ j ∧ j < 16 ∨ 46 ≤ j → (mBump a i).2 j = a j := fun j hj => mBump_k g4 hi hj
  have k0 := K 0 (by omega)
  have k1 := K 1 (by omega)
  have k2 := K 2 (by omega)
  have k3 := K 3 (by omega)
  have k4 := K 4 (by omega)
  have k12 := K 12 (by omega)
  have k13 := K 13 (by omega)
  have k14 := K 14 (by omega)
  have k15 := K 15 (by omega)
  have kR := zRw_k hR (fun j hj => K j (by omega))
  have eu1' : u1 = nI (a 5) := by rw [eu1, if_neg (by omega)]
  unfold zAg
  rw [k0, k1, k2, k3, k4, k12, k13, k14, k15]
  by_cases ht : a 11 = 1
  · have eM : mBump a i = (0, um a 10 (a 10 + 1)) := by unfold mBump; rw [if_pos ht]
    have eC : n_X1_strikeBumper u1 u4 u6 u7 fb i = (0, nI (a 8), nI (a 10 + 1), fb) := by
      unfold n_X1_strikeBumper
      rw [eu4, eu6, eu7, c_count (by omega) g11, if_pos ht, if_neg (by rw [ht]; decide)]
    obtain ⟨A1, A2, A3, A4⟩ := f_award h' hB' 1 0 (by omega) (by omega) a (fun _ _ _ => rfl) rfl
    have z := mScores_0 (a := a) (k := 1) (by omega) g4 (gp (a 3) (by omega)).2.2.2
    have U : ∀ j, j ≠ 10 → um a 10 (a 10 + 1) j = a j := fun j hj => um_n hj
    unfold n_X6_playBumper
    rw [eC, eM]
    dsimp only
    rw [lI0]
    refine ⟨rfl, e1, e2, e3, e4, e5, fun j hj => ?_, fun j hj => ?_, ?_, ?_, ?_, ?_, ?_, ?_, ?_, eu8, fun j hj => ?_, fun j hj => ?_, fun j hj => ?_, er, ?_, ?_, ew2, ew3, fun j hj => ?_⟩
    · rw [A1 j hj, (z j hj).1, U _ (by omega)]
    · rw [A2 j hj, (z j hj).2.1, U _ (by omega)]
    · simp (disch := omega) only [um_n]; exact eu1
    · rw [U _ (by omega)]; exact eu2
    · rw [U _ (by omega)]; exact eu3
    · rw [U _ (by omega)]
    · rw [U _ (by omega)]; exact eu5
    · rw [um_s]
    · rw [U _ (by omega)]; exact eu7
    · rw [U _ (by omega)]; exact hfl j hj
    · rw [U _ (by omega)]; exact hfb j hj
    · rw [U _ (by omega)]; exact hfd j hj
    · rw [eM] at kR; exact kR
    · have W := mS_W (a := a) (k := 1) (y := 0) (by omega) g4
      rw [A3, W, U _ (by omega), U _ (by omega), U _ (by omega), U _ (by omega)]; rfl
    · rw [A4 j hj, (z j hj).2.2, U _ (by omega)]
  · have e11 : a 11 = 0 := by omega
    have bi := gb i hi
    have fi := hfb i hi
    have h0 : nI (a 11) = 0 := by rw [e11]; rfl
    have hy : a (20 + i) * a 5 ≤ 200 * 6 := Nat.mul_le_mul bi.1 g6
    have eM : mBump a i = (a (20 + i) * a 5, um (mScores (mCounts a) 1 (a (20 + i) * a 5)) (20 + i) (if 200 ≤ a (20 + i) then a (20 + i) else a (20 + i) + 10)) := by unfold mBump; rw [if_neg ht]
    have ev : (if 200 < (nI (a (20 + i)) + 10) then (200 : Int32) else nI (a (20 + i)) + 10) = nI (if 200 ≤ a (20 + i) then a (20 + i) else a (20 + i) + 10) := by
      have e10 : nI (a (20 + i)) + 10 = nI (a (20 + i) + 10) := nI_add _ 10
      rw [e10, lI200]
      by_cases q : 200 ≤ a (20 + i)
      · rw [if_pos q, if_pos ((nI_ltI (by omega) (by omega)).mpr (by omega))]
        congr 1; omega
      · rw [if_neg q, if_neg (fun z => by have := (nI_ltI (by omega) (by omega)).mp z; omega)]
    have eC : n_X1_strikeBumper u1 u4 u6 u7 fb i = (nI (a (20 + i) * a 5), nI (a 8 - 1), nI (a 10 + 1), upd fb i (nI (if 200 ≤ a (20 + i) then a (20 + i) else a (20 + i) + 10))) := by
      unfold n_X1_strikeBumper
      rw [eu4, eu6, eu7, c_count (by omega) g11, if_neg ht, if_pos h0, fi, ev, eu1', pk_mul]
    generalize a (20 + i) * a 5 = y at *
    have f3 : mCounts a 3 = a 3 := mCounts_k (by omega)
    obtain ⟨A1, A2, A3, A4⟩ := f_award h' hB' 1 y (by omega) (by omega) (mCounts a) (fun j h1 h2 => mCounts_k (by omega)) f3
    generalize hS : mScores (mCounts a) 1 y = S at *
    have SK : ∀ j, j < 30 ∧ j ≠ 8 ∧ j ≠ 10 ∨ 46 ≤ j → S j = a j := fun j hj => by rw [← hS]; exact mCS_k (by omega) g4 hj
    have S8 : S 8 = a 8 - 1 := by rw [← hS]; exact mCS_8 (by omega) g4
    have S10 : S 10 = a 10 + 1 := by rw [← hS]; exact mCS_10 (by omega) g4
    generalize hv : (if 200 ≤ a (20 + i) then a (20 + i) else a (20 + i) + 10) = v at *
    have FN : ∀ j, ¬ (20 ≤ j ∧ j ≤ 22) → um S (20 + i) v j = S j := fun j hj => um_n (by omega)
    unfold n_X6_playBumper
    rw [eC, eM]
    dsimp only
    refine ⟨rfl, e1, e2, e3, e4, e5, fun j hj => ?_, fun j hj => ?_, ?_, ?_, ?_, ?_, ?_, ?_, ?_, eu8, fun j hj => ?_, fun j hj => ?_, fun j hj => ?_, er, ?_, ?_, ew2, ew3, fun j hj => ?_⟩
    · rw [A1 j hj, FN _ (by omega)]
    · rw [A2 j hj, FN _ (by omega)]
    · have s5 := SK 5 (by omega)
      simp (disch := omega) only [um_n, s5]; exact eu1
    · rw [FN _ (by omega), SK _ (by omega)]; exact eu2
    · rw [FN _ (by omega), SK _ (by omega)]; exact eu3
    · rw [FN _ (by omega), S8]
    · rw [FN _ (by omega), SK _ (by omega)]; exact eu5
    · rw [FN _ (by omega), S10]
    · rw [FN _ (by omega), SK _ (by omega)]; exact eu7
    · rw [FN _ (by omega), SK _ (by omega)]; exact hfl j hj
    · by_cases e : j = i
      · subst e; rw [pk_us, um_s]
      · rw [pk_un e, um_n (by omega), SK _ (by omega)]; exact hfb j hj
    · rw [FN _ (by omega), SK _ (by omega)]; exact hfd j hj
    · rw [eM] at kR; exact kR
    · rw [A3, FN _ (by omega), FN _ (by omega), FN _ (by omega), FN _ (by omega)]
    · rw [A4 j hj, FN _ (by omega)]
theorem f_nudge (h : zAg a p1 p2 p3 p4 p5 fs fx u1 u2 u3 u4 u5 u6 u7 u8 fl fb fd r1 fr0 fr1 fr2 w1 w2 w3 fp) (hB : zBd b a) (hr : a 0 = 1) {x : Nat} (hx : x ≤ 3) :
    (n_X6_shake u4 u5 u7 w3 (nI x)).1 = nI (mNudge a x).1 ∧ zAg (mNudge a x).2 p1 p2 p3 p4 p5 fs fx u1 u2 u3 (n_X6_shake u4 u5 u7 w3 (nI x)).2.1 (n_X6_shake u4 u5 u7 w3 (nI x)).2.2.1 u6 (n_X6_shake u4 u5 u7 w3 (nI x)).2.2.2.1 u8 fl fb fd r1 fr0 fr1 fr2 w1 w2 (n_X6_shake u4 u5 u7 w3 (nI x)).2.2.2.2 fp := by
  obtain ⟨e1, e2, e3, e4, e5, hfs, hfx, eu1, eu2, eu3, eu4, eu5, eu6, eu7, eu8, hfl, hfb, hfd, er, hR, ew1, ew2, ew3, hfp⟩ := h
  obtain ⟨g0, g1, g2, g3, g4, g5, g6, g7, g8, g9, g10, g11, g12, g13, g14, g15, gl, gb, gd, gr, gp, gz⟩ := hB
  obtain ⟨r1', r2', r3', r4', r5', r6'⟩ := gr hr
  have K : ∀ j, j < 8 ∨ j = 10 ∨ 12 ≤ j ∧ j < 15 ∨ 16 ≤ j → (mNudge a x).2 j = a j := fun j hj => mNudge_k hj
  have kR := zRw_k hR (fun j hj => K j (by omega))
  have key : (n_X6_shake u4 u5 u7 w3 (nI x)).1 = nI (mNudge a x).1 ∧ (n_X6_shake u4 u5 u7 w3 (nI x)).2.1 = nI ((mNudge a x).2 8) ∧ (n_X6_shake u4 u5 u7 w3 (nI x)).2.2.1 = nI ((mNudge a x).2 9) ∧ (n_X6_shake u4 u5 u7 w3 (nI x)).2.2.2.1 = nI ((mNudge a x).2 11) ∧ (n_X6_shake u4 u5 u7 w3 (nI x)).2.2.2.2 = nI ((mNudge a x).2 15) := by
    rw [eu4, eu5, eu7, ew3]
    unfold n_X6_shake n_X1_shake mNudge
    by_cases ht : a 11 = 1
    · simp (disch := omega) [lI0, lI1, lI2, lI3, lI4, lI5, lI6, lI8, lI9, lI10, lI20, lI50, lI100, lI200, lI400, lI300, lI5000, nI_add, pk_mul, nI_eq, nI_leI, nI_ltI, um_n, um_s, ht]
    · have e11 : a 11 = 0 := by omega
      have r5'' := r5' e11
      by_cases q : 5 ≤ a 8 + x
      · have q' : ¬ a 8 + x < 5 := by omega
        by_cases q3 : a 9 + 1 = 3
        · have q3' : ¬ a 9 + 1 < 3 := by omega
          simp (disch := omega) [lI0, lI1, lI2, lI3, lI4, lI5, lI6, lI8, lI9, lI10, lI20, lI50, lI100, lI200, lI400, lI300, lI5000, nI_add, pk_mul, nI_eq, nI_leI, nI_ltI, um_n, um_s, e11, q, q', q3, q3']
        · have q3' : a 9 + 1 < 3 := by omega
          simp (disch := omega) [lI0, lI1, lI2, lI3, lI4, lI5, lI6, lI8, lI9, lI10, lI20, lI50, lI100, lI200, lI400, lI300, lI5000, nI_add, pk_mul, nI_eq, nI_leI, nI_ltI, um_n, um_s, e11, q, q', q3, q3']
      · have q' : a 8 + x < 5 := by omega
        simp (disch := omega) [lI0, lI1, lI2, lI3, lI4, lI5, lI6, lI8, lI9, lI10, lI20, lI50, lI100, lI200, lI400, lI300, lI5000, nI_add, pk_mul, nI_eq, nI_leI, nI_ltI, um_n, um_s, e11, q, q']
  obtain ⟨a1, a2, a3, a4, a5⟩ := key
  refine ⟨a1, ?_⟩
  unfold zAg
  rw [K 0 (by omega), K 1 (by omega), K 2 (by omega), K 3 (by omega), K 4 (by omega), K 6 (by omega), K 7 (by omega), K 10 (by omega), K 12 (by omega), K 13 (by omega), K 14 (by omega), K 42 (by omega), K 43 (by omega), K 44 (by omega), K 45 (by omega)]
  have k5 := K 5 (by omega)
  refine ⟨e1, e2, e3, e4, e5, fun j hj => ?_, fun j hj => ?_, ?_, eu2, eu3, a2, a3, eu6, a4, eu8, fun j hj => ?_, fun j hj => ?_, fun j hj => ?_, er, kR, ew1, ew2, a5, fun j hj => ?_⟩
  · rw [K _ (by omega)]; exact hfs j hj
  · rw [K _ (by omega)]; exact hfx j hj
  · simp only [k5]; exact eu1
  · rw [K _ (by omega)]; exact hfl j hj
  · rw [K _ (by omega)]; exact hfb j hj
  · rw [K _ (by omega)]; exact hfd j hj
  · rw [K _ (by omega)]; exact hfp j hj
theorem f_admit (h : zAg a p1 p2 p3 p4 p5 fs fx u1 u2 u3 u4 u5 u6 u7 u8 fl fb fd r1 fr0 fr1 fr2 w1 w2 w3 fp) (hB : zBd b a) (h2 : a 2 ≤ 3) :
    (n_X6_admit p1 fs fx).1 = nI (a 2) ∧ zAg (mAdds a) (n_X6_admit p1 fs fx).2.1 p2 p3 p4 p5 (n_X6_admit p1 fs fx).2.2.1 (n_X6_admit p1 fs fx).2.2.2 u1 u2 u3 u4 u5 u6 u7 u8 fl fb fd r1 fr0 fr1 fr2 w1 w2 w3 fp := by
  obtain ⟨e1, e2, e3, e4, e5, hfs, hfx, eu1, eu2, eu3, eu4, eu5, eu6, eu7, eu8, hfl, hfb, hfd, er, hR, ew1, ew2, ew3, hfp⟩ := h
  have K : ∀ j, j < 30 ∧ j ≠ 2 ∨ 42 ≤ j → mAdds a j = a j := fun j hj => by
    unfold mAdds
    simp (disch := omega) only [um_n]
  have kR := zRw_k hR (fun j hj => K j (by omega))
  have Z : zn p1 = a 2 := by rw [e1]; exact zn_I (by omega)
  have k5 := K 5 (by omega)
  refine ⟨e1, ?_⟩
  unfold zAg
  rw [K 0 (by omega), K 1 (by omega), K 3 (by omega), K 4 (by omega), K 6 (by omega), K 7 (by omega), K 8 (by omega), K 9 (by omega), K 10 (by omega), K 11 (by omega), K 12 (by omega), K 13 (by omega), K 14 (by omega), K 15 (by omega), K 42 (by omega), K 43 (by omega), K 44 (by omega), K 45 (by omega)]
  refine ⟨?_, e2, e3, e4, e5, fun j hj => ?_, fun j hj => ?_, ?_, eu2, eu3, eu4, eu5, eu6, eu7, eu8, fun j hj => ?_, fun j hj => ?_, fun j hj => ?_, er, kR, ew1, ew2, ew3, fun j hj => ?_⟩
  · unfold n_X6_admit mAdds
    rw [um_s, Z]
  · unfold n_X6_admit mAdds
    rw [Z]
    dsimp only
    by_cases e : j = a 2
    · subst e; simp (disch := omega) only [pk_us, um_n, um_s]; rfl
    · simp (disch := omega) only [pk_un, um_n]; exact hfs j hj
  · unfold n_X6_admit mAdds
    rw [Z]
    dsimp only
    by_cases e : j = a 2
    · subst e; simp (disch := omega) only [pk_us, um_n, um_s]; rfl
    · simp (disch := omega) only [pk_un, um_n]; exact hfx j hj
  · simp only [k5]; exact eu1
  · rw [K _ (by omega)]; exact hfl j hj
  · rw [K _ (by omega)]; exact hfb j hj
  · rw [K _ (by omega)]; exact hfd j hj
  · rw [K _ (by omega)]; exact hfp j hj
theorem f_quit (h : zAg a p1 p2 p3 p4 p5 fs fx u1 u2 u3 u4 u5 u6 u7 u8 fl fb fd r1 fr0 fr1 fr2 w1 w2 w3 fp) : (n_X6_breakOff p4).1 = nI (a 3) ∧ zAg (um a 0 0) p1 (n_X6_breakOff p4).2 p3 p4 p5 fs fx u1 u2 u3 u4 u5 u6 u7 u8 fl fb fd r1 fr0 fr1 fr2 w1 w2 w3 fp := by
  obtain ⟨e1, e2, e3, e4, e5, hfs, hfx, eu1, eu2, eu3, eu4, eu5, eu6, eu7, eu8, hfl, hfb, hfd, er, hR, ew1, ew2, ew3, hfp⟩ := h
  have K : ∀ j, 1 ≤ j → um a 0 0 j = a j := fun j hj => um_n (by omega)
  have kR := zRw_k hR (fun j hj => K j (by omega))
  have k5 := K 5 (by omega)
  refine ⟨e4, ?_⟩
  unfold zAg
  rw [um_s, K 1 (by omega), K 2 (by omega), K 3 (by omega), K 4 (by omega), K 6 (by omega), K 7 (by omega), K 8 (by omega), K 9 (by omega), K 10 (by omega), K 11 (by omega), K 12 (by omega), K 13 (by omega), K 14 (by omega), K 15 (by omega), K 42 (by omega), K 43 (by omega), K 44 (by omega), K 45 (by omega)]
  refine ⟨e1, rfl, e3, e4, e5, fun j hj => ?_, fun j hj => ?_, ?_, eu2, eu3, eu4, eu5, eu6, eu7, eu8, fun j hj => ?_, fun j hj => ?_, fun j hj => ?_, er, kR, ew1, ew2, ew3, fun j hj => ?_⟩
  · rw [K _ (by omega)]; exact hfs j hj
  · rw [K _ (by omega)]; exact hfx j hj
  · simp only [k5]; exact eu1
  · rw [K _ (by omega)]; exact hfl j hj
  · rw [K _ (by omega)]; exact hfb j hj
  · rw [K _ (by omega)]; exact hfd j hj
  · rw [K _ (by omega)]; exact hfp j hj
end CLB
