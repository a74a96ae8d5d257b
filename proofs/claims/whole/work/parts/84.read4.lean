section RG
variable {b : Nat} {a : Nat → Nat} {p1 p2 p3 p4 p5 : Int32} {fs fx : Nat → Int32} {u1 u2 u3 u4 u5 u6 u7 u8 : Int32} {fl fb fd : Nat → Int32} {r1 : Int32} {fr0 fr1 fr2 : Nat → Int32} {w1 w2 w3 : Int32} {fp : Nat → Int32}
/-- a drain that is not saved: points, the state before the next ball -/
theorem drain_S (hB : zBd b a) (q : ¬ (a 11 = 0 ∧ a 10 ≤ 3 ∧ a 12 = 0)) : ∃ S y, y ≤ 600 * a 7 ∧ y = (if a 11 = 1 then 0 else 100 * a 7 * a 5) ∧ (mDrain a).1 = y ∧ (mDrain a).2 = mFollow S ∧ (∀ j, j < 30 ∨ 46 ≤ j → j ≠ 14 → S j = a j) ∧ S 14 = a 14 + 1 ∧ (∀ c, c < 4 → S (34 + c) = if c = a 3 ∧ 5000 ≤ a (30 + c) + y ∧ a (38 + c) = 0 then (if 3 ≤ a (34 + c) then a (34 + c) else a (34 + c) + 1) else a (34 + c)) := by
  obtain ⟨g0, g1, g2, g3, g4, g5, g6, g7, g8, g9, g10, g11, g12, g13, g14, g15, gl, gb, gd, gr, gp, gz⟩ := hB
  have dl : ∀ j, j ≠ 14 → um a 14 (a 14 + 1) j = a j := fun j hj => um_n hj
  have d3 : um a 14 (a 14 + 1) 3 = a 3 := dl 3 (by omega)
  unfold mDrain
  rw [if_neg q]
  by_cases q1 : a 11 = 1
  · simp only [if_pos q1]
    refine ⟨um a 14 (a 14 + 1), 0, by omega, rfl, rfl, rfl, fun j hj h14 => dl j h14, um_s, fun c hc => ?_⟩
    have := gp c hc
    rw [dl _ (by omega), if_neg (by omega)]
  · simp only [if_neg q1]
    refine ⟨mScores (um a 14 (a 14 + 1)) 3 (100 * a 7 * a 5), 100 * a 7 * a 5, ?_, rfl, rfl, rfl, fun j hj h14 => ?_, ?_, fun c hc => ?_⟩
    · have := Nat.mul_le_mul_left (100 * a 7) g6
      omega
    · rw [mScores_k (by omega) (by omega) hj, dl j h14]
    · rw [mScores_k (by omega) (by omega) (by omega), um_s]
    · rw [mScores_34 (by omega) (by omega) (by omega), d3, dl _ (by omega), dl _ (by omega), dl _ (by omega)]
theorem c_after (h : zAg a p1 p2 p3 p4 p5 fs fx u1 u2 u3 u4 u5 u6 u7 u8 fl fb fd r1 fr0 fr1 fr2 w1 w2 w3 fp) (hI : zInv b a) (hr0 : a 0 = 1) : n_X6_playerAfterDrain p1 p4 p5 fs fx u1 u3 u6 u7 u8 = if (mDrain a).2 0 = 1 then nI ((mDrain a).2 3) else -1 := by
  have h' := h
  obtain ⟨hB, hr⟩ := hI
  have hB' := hB
  obtain ⟨e1, e2, e3, e4, e5, hfs, hfx, eu1, eu2, eu3, eu4, eu5, eu6, eu7, eu8, hfl, hfb, hfd, er, hR, ew1, ew2, ew3, hfp⟩ := h
  obtain ⟨g0, g1, g2, g3, g4, g5, g6, g7, g8, g9, g10, g11, g12, g13, g14, g15, gl, gb, gd, gr, gp, gz⟩ := hB
  obtain ⟨r1', r2', r3', r4', r5', r6'⟩ := gr hr0
  have eu1' : u1 = nI (a 5) := by rw [eu1, if_neg (by omega)]
  have h10 : ¬ (1 : Int32) = 0 := by decide
  have t0 : u7 = 0 ↔ a 11 = 0 := by rw [eu7, lI0]; exact nI_eq (by omega) (by omega)
  have Z4 : zn p4 = a 3 := by rw [e4]; exact zn_I (by omega)
  have gp3 := gp (a 3) (by omega)
  unfold n_X6_playerAfterDrain
  rw [c_saved h' hB']
  by_cases q : a 11 = 0 ∧ a 10 ≤ 3 ∧ a 12 = 0
  · have eM : mDrain a = (0, um a 12 1) := by unfold mDrain; rw [if_pos q]
    rw [eM]
    simp only [if_pos q, if_neg h10]
    rw [um_n (by omega), um_n (by omega), if_pos hr0]
    exact e4
  · obtain ⟨S, y, hy, ey, -, eS, SK, -, S34⟩ := drain_S hB' q
    have eC : n_X1_bonusPoints u1 u3 u7 = nI y := by
      unfold n_X1_bonusPoints
      rw [ey]
      by_cases q1 : a 11 = 1
      · rw [if_pos q1, if_neg (fun z => by have := t0.mp z; omega)]; rfl
      · rw [if_neg q1, if_pos (t0.mpr (by omega)), eu3, eu1', lI100, pk_mul, pk_mul]
    have s34 := S34 (a 3) (by omega)
    have sx : 0 < fx (zn p4) ↔ 0 < a (34 + a 3) := by rw [Z4, hfx (a 3) (by omega), lI0]; exact nI_ltI (by omega) (by omega)
    have sm : n_X6_reachesMilestone p4 fs (nI y) = if a (30 + a 3) < 5000 ∧ 5000 ≤ a (30 + a 3) + y then 1 else 0 := by
      unfold n_X6_reachesMilestone
      rw [Z4, hfs (a 3) (by omega), nI_add, lI5000]
      by_cases k1 : 5000 ≤ a (30 + a 3)
      · rw [if_pos ((nI_leI (by omega) (by omega)).mpr k1), if_neg (by omega)]
      · rw [if_neg (fun z => k1 ((nI_leI (by omega) (by omega)).mp z))]
        by_cases k2 : a (30 + a 3) + y < 5000
        · rw [if_pos ((nI_ltI (by omega) (by omega)).mpr k2), if_neg (by omega)]
        · rw [if_neg (fun z => k2 ((nI_ltI (by omega) (by omega)).mp z)), if_pos (by omega)]
    have e41 : p4 + 1 = nI (a 3 + 1) := by rw [e4, nI_1]
    have c2 : p1 ≤ p4 + 1 ↔ a 2 ≤ a 3 + 1 := by rw [e1, e41]; exact nI_leI (by omega) (by omega)
    have c3 : 3 ≤ p5 ↔ 3 ≤ a 4 := by rw [e5, lI3]; exact nI_leI (by omega) (by omega)
    have k3 := SK 3 (by omega) (by omega)
    have k2 := SK 2 (by omega) (by omega)
    have k4 := SK 4 (by omega) (by omega)
    have k0 := SK 0 (by omega) (by omega)
    have k13 := SK 13 (by omega) (by omega)
    have M0 : ∀ f : Nat → Nat, mBall f 0 = f 0 := fun f => mBall_n (by omega)
    have M3 : ∀ f : Nat → Nat, mBall f 3 = f 3 := fun f => mBall_n (by omega)
    rw [eS]
    simp only [if_neg q, if_true]
    unfold mFollow
    rw [k3, k2, k4, eC, sm]
    by_cases x0 : S (34 + a 3) = 0
    · have nx : ¬ 0 < a (34 + a 3) ∧ ¬ (a (30 + a 3) < 5000 ∧ 5000 ≤ a (30 + a 3) + y) := by
        rw [s34] at x0
        by_cases k : a 3 = a 3 ∧ 5000 ≤ a (30 + a 3) + y ∧ a (38 + a 3) = 0
        · rw [if_pos k] at x0
          split at x0
          all_goals omega
        · rw [if_neg k] at x0
          refine ⟨by omega, ?_⟩
          rintro ⟨k1, k2⟩
          exact k ⟨rfl, k2, by omega⟩
      have nx1 : ¬ 0 < fx (zn p4) := fun z => nx.1 (sx.mp z)
      rw [if_pos x0]
      simp only [if_neg nx1, if_neg nx.2, if_true]
      unfold n_X6_playerAfterLastBall
      by_cases ql : a 3 + 1 = a 2
      · rw [if_pos ql, if_pos (c2.mpr (by omega))]
        by_cases q4 : a 4 = 3
        · rw [if_pos q4, if_pos (c3.mpr (by omega)), mFin_k ⟨by omega, by omega⟩ 5 (um S 0 0) 0 (by rw [um_n (by omega), k13]; exact g13), um_s, if_neg (by omega)]
        · rw [if_neg q4, if_neg (fun z => by have := c3.mp z; omega), M0, M3, um_n (by omega), um_n (by omega), um_s, k0, if_pos hr0]; rfl
      · rw [if_neg ql, if_neg (fun z => by have := c2.mp z; omega), M0, M3, um_n (by omega), um_s, k0, if_pos hr0]; exact e41
    · rw [if_neg x0, M0, M3, um_n (by omega), um_n (by omega), k0, k3, if_pos hr0, ← e4]
      by_cases nx1 : 0 < fx (zn p4)
      · rw [if_pos nx1]
      · have nx2 : a (30 + a 3) < 5000 ∧ 5000 ≤ a (30 + a 3) + y := by
          rw [s34] at x0
          by_cases k : a 3 = a 3 ∧ 5000 ≤ a (30 + a 3) + y ∧ a (38 + a 3) = 0
          · omega
          · rw [if_neg k] at x0
            exact absurd (sx.mpr (by omega)) nx1
        simp only [if_neg nx1, if_pos nx2, if_neg h10]
/-! ranks -/
theorem c_ahead (h : zAg a p1 p2 p3 p4 p5 fs fx u1 u2 u3 u4 u5 u6 u7 u8 fl fb fd r1 fr0 fr1 fr2 w1 w2 w3 fp) (hB : zBd b a) {i j : Nat} (hi : i < 4) (hj : j < 4) : n_X9_isAhead (zF a) (nI i) i (nI j) j = n_X6_isAhead fs fx (nI i) i (nI j) j := by
  obtain ⟨e1, e2, e3, e4, e5, hfs, hfx, eu1, eu2, eu3, eu4, eu5, eu6, eu7, eu8, hfl, hfb, hfd, er, hR, ew1, ew2, ew3, hfp⟩ := h
  obtain ⟨g0, g1, g2, g3, g4, g5, g6, g7, g8, g9, g10, g11, g12, g13, g14, g15, gl, gb, gd, gr, gp, gz⟩ := hB
  have x1 := gp i hi
  have x2 := gp j hj
  unfold n_X9_isAhead n_X6_isAhead
  rw [hfs i hi, hfs j hj, hfx i hi, hfx j hj, zF_at, zF_at, zF_at, zF_at]
  generalize a (34 + i) = A at *
  generalize a (34 + j) = C at *
  by_cases q1 : C < A
  · rw [if_pos ((nI_ltI (by omega) (by omega)).mpr q1), if_neg (fun z => by have := (nI_eq (by omega) (by omega)).mp z; omega : ¬ nI A = nI C), if_neg (fun z => by have := (nI_leI (by omega) (by omega)).mp z; omega : ¬ nI A ≤ nI C)]
  · rw [if_neg (fun z => q1 ((nI_ltI (by omega) (by omega)).mp z))]
    by_cases q2 : A = C
    · have q3 : nI A = nI C := by rw [q2]
      simp only [if_pos q3]
    · rw [if_neg (fun z => q2 ((nI_eq (by omega) (by omega)).mp z)), if_neg (fun z => q2 ((nI_eq (by omega) (by omega)).mp z)), if_pos ((nI_leI (by omega) (by omega)).mpr (by omega) : nI A ≤ nI C)]
theorem c_rank (h : zAg a p1 p2 p3 p4 p5 fs fx u1 u2 u3 u4 u5 u6 u7 u8 fl fb fd r1 fr0 fr1 fr2 w1 w2 w3 fp) (hB : zBd b a) (x : Int32) {k : Nat} (hk : k < 4) (k0 : Nat → Int32 × Int32) : n_X9_playerAtRank_L2 (zF a) x k k0 5 0 0 = if n_X6_rankOf p1 fs fx (nI k) k = x then (nI k, 0) else k0 (k + 1) := by
  have A0 := c_ahead h hB (i := 0) (j := k) (by omega) hk
  have A1 := c_ahead h hB (i := 1) (j := k) (by omega) hk
  have A2 := c_ahead h hB (i := 2) (j := k) (by omega) hk
  have A3 := c_ahead h hB (i := 3) (j := k) (by omega) hk
  have e1 := h.1
  have g3 := hB.2.2.2.1
  have L : ∀ n, n < 10 → (p1 ≤ nI n ↔ a 2 ≤ n) := fun n hn => by rw [e1]; exact nI_leI (by omega) (by omega)
  have L0 : p1 ≤ 0 ↔ a 2 ≤ 0 := L 0 (by omega)
  have L1 : p1 ≤ 1 ↔ a 2 ≤ 1 := L 1 (by omega)
  have L2 : p1 ≤ 2 ↔ a 2 ≤ 2 := L 2 (by omega)
  have L3 : p1 ≤ 3 ↔ a 2 ≤ 3 := L 3 (by omega)
  have M : ∀ n, n < 10 → (zF a 2 ≤ nI n ↔ a 2 ≤ n) := fun n hn => nI_leI (by omega) (by omega)
  have M0 := M 0 (by omega)
  have M1 := M 1 (by omega)
  have M2 := M 2 (by omega)
  have M3 := M 3 (by omega)
  have M4 := M 4 (by omega)
  have z00 : (0 : Int32) + 0 = 0 := rfl
  have z01 : (0 : Int32) + 1 = 1 := rfl
  have z10 : (1 : Int32) + 0 = 1 := rfl
  have z11 : (1 : Int32) + 1 = 2 := rfl
  have z20 : (2 : Int32) + 0 = 2 := rfl
  have z21 : (2 : Int32) + 1 = 3 := rfl
  have z30 : (3 : Int32) + 0 = 3 := rfl
  have z31 : (3 : Int32) + 1 = 4 := rfl
  have A0' : n_X9_isAhead (zF a) (nI 0) 0 (nI k) k = n_X6_isAhead fs fx 0 0 (nI k) k := A0
  have A1' : n_X9_isAhead (zF a) (nI 1) 1 (nI k) k = n_X6_isAhead fs fx 1 1 (nI k) k := A1
  have A2' : n_X9_isAhead (zF a) (nI 2) 2 (nI k) k = n_X6_isAhead fs fx 2 2 (nI k) k := A2
  have A3' : n_X9_isAhead (zF a) (nI 3) 3 (nI k) k = n_X6_isAhead fs fx 3 3 (nI k) k := A3
  unfold n_X6_rankOf
  simp only [n_X9_playerAtRank_L2, Nat.zero_add, Nat.reduceAdd, M0, M1, M2, M3, M4, L0, L1, L2, L3, A0', A1', A2', A3']
  generalize n_X6_isAhead fs fx 0 0 (nI k) k = B0 at *
  generalize n_X6_isAhead fs fx 1 1 (nI k) k = B1 at *
  generalize n_X6_isAhead fs fx 2 2 (nI k) k = B2 at *
  generalize n_X6_isAhead fs fx 3 3 (nI k) k = B3 at *
  obtain hA | hA | hA | hA | hA : a 2 = 0 ∨ a 2 = 1 ∨ a 2 = 2 ∨ a 2 = 3 ∨ a 2 = 4 := by omega
  · simp [hA]
  · rw [hA]
    by_cases b0 : B0 = 0
    · simp [b0]
    · simp [b0]
  · rw [hA]
    by_cases b0 : B0 = 0 <;> by_cases b1 : B1 = 0 <;> simp [b0, b1, z11]
  · rw [hA]
    by_cases b0 : B0 = 0 <;> by_cases b1 : B1 = 0 <;> by_cases b2 : B2 = 0 <;> simp [b0, b1, b2, z11, z21]
  · rw [hA]
    by_cases b0 : B0 = 0 <;> by_cases b1 : B1 = 0 <;> by_cases b2 : B2 = 0 <;> by_cases b3 : B3 = 0 <;> simp [b0, b1, b2, b3, z11, z21, z31]
/-- the rank's player: both -/
theorem r_rank (h : zAg a p1 p2 p3 p4 p5 fs fx u1 u2 u3 u4 u5 u6 u7 u8 fl fb fd r1 fr0 fr1 fr2 w1 w2 w3 fp) (hB : zBd b a) (x : Int32) : n_X9_playerAtRank (zF a) x = if n_X6_playerRanked p1 fs fx x = -1 then (0, 1) else (n_X6_playerRanked p1 fs fx x, 0) := by
  have e1 := h.1
  have g3 := hB.2.2.2.1
  have L : ∀ n, n < 10 → (p1 ≤ nI n ↔ a 2 ≤ n) := fun n hn => by rw [e1]; exact nI_leI (by omega) (by omega)
  have L0 : p1 ≤ 0 ↔ a 2 ≤ 0 := L 0 (by omega)
  have L1 : p1 ≤ 1 ↔ a 2 ≤ 1 := L 1 (by omega)
  have L2 : p1 ≤ 2 ↔ a 2 ≤ 2 := L 2 (by omega)
  have L3 : p1 ≤ 3 ↔ a 2 ≤ 3 := L 3 (by omega)
  have M : ∀ n, n < 10 → (zF a 2 ≤ nI n ↔ a 2 ≤ n) := fun n hn => nI_leI (by omega) (by omega)
  have M0 : zF a 2 ≤ 0 ↔ a 2 ≤ 0 := M 0 (by omega)
  have M1 : zF a 2 ≤ 1 ↔ a 2 ≤ 1 := M 1 (by omega)
  have M2 : zF a 2 ≤ 2 ↔ a 2 ≤ 2 := M 2 (by omega)
  have M3 : zF a 2 ≤ 3 ↔ a 2 ≤ 3 := M 3 (by omega)
  have M4 := M 4 (by omega)
  have C0 := fun k0 => c_rank h hB x (k := 0) (by omega) k0
  have C1 := fun k0 => c_rank h hB x (k := 1) (by omega) k0
  have C2 := fun k0 => c_rank h hB x (k := 2) (by omega) k0
  have C3 := fun k0 => c_rank h hB x (k := 3) (by omega) k0
  have hm0 : ¬ (0 : Int32) = -1 := by decide
  have hm1 : ¬ (1 : Int32) = -1 := by decide
  have hm2 : ¬ (2 : Int32) = -1 := by decide
  have hm3 : ¬ (3 : Int32) = -1 := by decide
  have i0 : nI 0 = 0 := rfl
  have i1 : nI 1 = 1 := rfl
  have i2 : nI 2 = 2 := rfl
  have i3 : nI 3 = 3 := rfl
  unfold n_X9_playerAtRank n_X6_playerRanked
  simp only [n_X9_playerAtRank_L1, n_X9_fail, C0, C1, C2, C3, Nat.zero_add, Nat.reduceAdd, M0, M1, M2, M3, M4, L0, L1, L2, L3, i0, i1, i2, i3]
  generalize n_X6_rankOf p1 fs fx 0 0 = R0 at *
  generalize n_X6_rankOf p1 fs fx 1 1 = R1 at *
  generalize n_X6_rankOf p1 fs fx 2 2 = R2 at *
  generalize n_X6_rankOf p1 fs fx 3 3 = R3 at *
  obtain hA | hA | hA | hA | hA : a 2 = 0 ∨ a 2 = 1 ∨ a 2 = 2 ∨ a 2 = 3 ∨ a 2 = 4 := by omega
  · simp [hA]
  · rw [hA]
    by_cases b0 : R0 = x <;> simp [b0]
  · rw [hA]
    by_cases b0 : R0 = x <;> by_cases b1 : R1 = x <;> simp [b0, b1]
  · rw [hA]
    by_cases b0 : R0 = x <;> by_cases b1 : R1 = x <;> by_cases b2 : R2 = x <;> simp [b0, b1, b2]
  · rw [hA]
    by_cases b0 : R0 = x <;> by_cases b1 : R1 = x <;> by_cases b2 : R2 = x <;> by_cases b3 : R3 = x <;> simp [b0, b1, b2, b3]
end RG
