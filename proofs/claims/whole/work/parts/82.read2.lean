section RE
variable {b : Nat} {a : Nat → Nat} {p1 p2 p3 p4 p5 : Int32} {fs fx : Nat → Int32} {u1 u2 u3 u4 u5 u6 u7 u8 : Int32} {fl fb fd : Nat → Int32} {r1 : Int32} {fr0 fr1 fr2 : Nat → Int32} {w1 w2 w3 : Int32} {fp : Nat → Int32}
theorem c_saved (h : zAg a p1 p2 p3 p4 p5 fs fx u1 u2 u3 u4 u5 u6 u7 u8 fl fb fd r1 fr0 fr1 fr2 w1 w2 w3 fp) (hB : zBd b a) : n_X1_canBeSaved u6 u7 u8 = if a 11 = 0 ∧ a 10 ≤ 3 ∧ a 12 = 0 then 1 else 0 := by
  obtain ⟨e1, e2, e3, e4, e5, hfs, hfx, eu1, eu2, eu3, eu4, eu5, eu6, eu7, eu8, hfl, hfb, hfd, er, hR, ew1, ew2, ew3, hfp⟩ := h
  obtain ⟨g0, g1, g2, g3, g4, g5, g6, g7, g8, g9, g10, g11, g12, g13, g14, g15, gl, gb, gd, gr, gp, gz⟩ := hB
  have t0 : u7 = 0 ↔ a 11 = 0 := by rw [eu7, lI0]; exact nI_eq (by omega) (by omega)
  have t10 : 3 < u6 ↔ 3 < a 10 := by rw [eu6, lI3]; exact nI_ltI (by omega) (by omega)
  have t12 : u8 = 0 ↔ a 12 = 0 := by rw [eu8, lI0]; exact nI_eq (by omega) (by omega)
  unfold n_X1_canBeSaved
  by_cases q1 : a 11 = 0
  · rw [if_pos (t0.mpr q1)]
    by_cases q2 : 3 < a 10
    · rw [if_pos (t10.mpr q2), if_neg (by omega)]
    · rw [if_neg (fun z => q2 (t10.mp z))]
      by_cases q3 : a 12 = 0
      · rw [if_pos (t12.mpr q3), if_pos (by omega)]
      · rw [if_neg (fun z => q3 (t12.mp z)), if_neg (by omega)]
  · rw [if_neg (fun z => q1 (t0.mp z)), if_neg (by omega)]
theorem e_saver (hB : zBd b a) : n_X9_isSaver (zF a) = if a 11 = 0 ∧ a 10 ≤ 3 ∧ a 12 = 0 then 1 else 0 := by
  obtain ⟨g0, g1, g2, g3, g4, g5, g6, g7, g8, g9, g10, g11, g12, g13, g14, g15, gl, gb, gd, gr, gp, gz⟩ := hB
  have t1 : zF a 11 = 1 ↔ a 11 = 1 := by rw [zF_at, lI1]; exact nI_eq (by omega) (by omega)
  have t10 : 3 < zF a 10 ↔ 3 < a 10 := by rw [zF_at, lI3]; exact nI_ltI (by omega) (by omega)
  have t12 : zF a 12 = 0 ↔ a 12 = 0 := by rw [zF_at, lI0]; exact nI_eq (by omega) (by omega)
  have h10 : ¬ (1 : Int32) = 0 := by decide
  unfold n_X9_isSaver n_X9_isTilt
  by_cases q1 : a 11 = 1
  · have w1 := t1.mpr q1
    have n1 : ¬ (a 11 = 0 ∧ a 10 ≤ 3 ∧ a 12 = 0) := by omega
    simp only [if_pos w1, if_neg n1, h10, if_false]
  · have w1 : ¬ zF a 11 = 1 := fun z => q1 (t1.mp z)
    by_cases q2 : 3 < a 10
    · have w2 := t10.mpr q2
      have n1 : ¬ (a 11 = 0 ∧ a 10 ≤ 3 ∧ a 12 = 0) := by omega
      simp only [if_neg w1, if_pos w2, if_neg n1, if_true]
    · have w2 : ¬ 3 < zF a 10 := fun z => q2 (t10.mp z)
      by_cases q3 : a 12 = 0
      · have w3 := t12.mpr q3
        have n1 : a 11 = 0 ∧ a 10 ≤ 3 ∧ a 12 = 0 := by omega
        simp only [if_neg w1, if_neg w2, if_pos w3, if_pos n1, if_true]
      · have w3 : ¬ zF a 12 = 0 := fun z => q3 (t12.mp z)
        have n1 : ¬ (a 11 = 0 ∧ a 10 ≤ 3 ∧ a 12 = 0) := by omega
        simp only [if_neg w1, if_neg w2, if_neg w3, if_neg n1, if_true]
/-- would it be saved: both -/
theorem r_saved (h : zAg a p1 p2 p3 p4 p5 fs fx u1 u2 u3 u4 u5 u6 u7 u8 fl fb fd r1 fr0 fr1 fr2 w1 w2 w3 fp) (hB : zBd b a) : n_X9_wouldBeSaved_ok (zF a) = (n_X8_wouldBeSaved u6 u7 u8, 0) := by
  unfold n_X9_wouldBeSaved_ok n_X8_wouldBeSaved n_X9_running_ok
  rw [e_saver hB, c_saved h hB]
  split
  · simp
  · simp
theorem r_bonus (h : zAg a p1 p2 p3 p4 p5 fs fx u1 u2 u3 u4 u5 u6 u7 u8 fl fb fd r1 fr0 fr1 fr2 w1 w2 w3 fp) (hB : zBd b a) (hr : a 0 = 1) : n_X9_bonusIfDrained_ok (zF a) = (n_X8_bonusIfDrained u1 u3 u6 u7 u8, 0) := by
  have h' := h
  obtain ⟨e1, e2, e3, e4, e5, hfs, hfx, eu1, eu2, eu3, eu4, eu5, eu6, eu7, eu8, hfl, hfb, hfd, er, hR, ew1, ew2, ew3, hfp⟩ := h
  have hB' := hB
  obtain ⟨g0, g1, g2, g3, g4, g5, g6, g7, g8, g9, g10, g11, g12, g13, g14, g15, gl, gb, gd, gr, gp, gz⟩ := hB
  obtain ⟨r1', r2', r3', r4', r5', r6'⟩ := gr hr
  have eu1' : u1 = nI (a 5) := by rw [eu1, if_neg (by omega)]
  have t0 : u7 = 0 ↔ a 11 = 0 := by rw [eu7, lI0]; exact nI_eq (by omega) (by omega)
  have h10 : ¬ (1 : Int32) = 0 := by decide
  unfold n_X9_bonusIfDrained_ok n_X8_bonusIfDrained n_X9_running_ok n_X9_isTilt n_X1_bonusPoints
  rw [e_saver hB', c_saved h' hB']
  by_cases q1 : a 11 = 1
  · have w1 : zF a 11 = 1 := by rw [zF_at, q1]; rfl
    have n1 : ¬ (a 11 = 0 ∧ a 10 ≤ 3 ∧ a 12 = 0) := by omega
    have n0 : ¬ u7 = 0 := fun z => by have := t0.mp z; omega
    simp only [if_pos w1, if_neg n1, if_neg n0, h10, if_false, if_true]
  · have w1 : ¬ zF a 11 = 1 := by rw [zF_at, lI1]; exact fun z => q1 ((nI_eq (by omega) (by omega)).mp z)
    have n0 : u7 = 0 := t0.mpr (by omega)
    by_cases n1 : a 11 = 0 ∧ a 10 ≤ 3 ∧ a 12 = 0
    · simp only [if_neg w1, if_pos n1, h10, if_false, if_true]
    · simp only [if_neg w1, if_neg n1, if_pos n0, if_true]
      rw [zF_at, zF_at, eu3, eu1']
/-! the simulated ball -/
theorem c_simB (h : zAg a p1 p2 p3 p4 p5 fs fx u1 u2 u3 u4 u5 u6 u7 u8 fl fb fd r1 fr0 fr1 fr2 w1 w2 w3 fp) (hB : zBd b a) (hr : a 0 = 1) {i y : Nat} (hi : i < 3) (hy : y ≤ 50) (flq fbq fdq : Nat → Int32) : (n_X8_simulatedBumper u1 u2 u3 u4 u5 u6 u7 u8 fl fb fd flq fbq fdq i (nI y)).1 = nI (mBumps a i y) := by
  obtain ⟨e1, e2, e3, e4, e5, hfs, hfx, eu1, eu2, eu3, eu4, eu5, eu6, eu7, eu8, hfl, hfb, hfd, er, hR, ew1, ew2, ew3, hfp⟩ := h
  obtain ⟨g0, g1, g2, g3, g4, g5, g6, g7, g8, g9, g10, g11, g12, g13, g14, g15, gl, gb, gd, gr, gp, gz⟩ := hB
  obtain ⟨r1', r2', r3', r4', r5', r6'⟩ := gr hr
  have eu1' : u1 = nI (a 5) := by rw [eu1, if_neg (by omega)]
  have bi := gb i hi
  have t0 : u7 = 0 ↔ a 11 = 0 := by rw [eu7, lI0]; exact nI_eq (by omega) (by omega)
  have L : ∀ (o : Int32 × Int32 × Int32 × Int32 × Int32 × Int32 × Int32 × Int32 × (Nat → Int32) × (Nat → Int32) × (Nat → Int32)), o.1 = nI (a 5) → o.2.2.2.2.2.2.1 = u7 → ∀ (n v s k : Nat) (f : Nat → Int32) (v4 v5 : Int32), f i = nI v → v ≤ 200 → v % 10 = 0 → k ≤ y → y - k < n → (n_X8_simulatedBumper_L1 i (nI y) o n f v4 v5 (nI s) k).1 = nI (s + if a 11 = 1 then 0 else bS v (y - k) * a 5) := by
    intro o h1 h7 n
    induction n with
    | zero => intro v s k f v4 v5 _ _ _ _ h; omega
    | succ n ih =>
      intro v s k f v4 v5 hf hv hv2 hk hn
      unfold n_X8_simulatedBumper_L1
      by_cases e : y ≤ k
      · have c : nI y ≤ nI k := (nI_leI (by omega) (by omega)).mpr e
        rw [if_pos c, show y - k = 0 from by omega]
        have : bS v 0 * a 5 = 0 := Nat.zero_mul _
        rw [this]
        simp
      · have c : ¬ nI y ≤ nI k := fun z => e ((nI_leI (by omega) (by omega)).mp z)
        rw [if_neg c]
        unfold n_X1_strikeBumper
        rw [h7]
        by_cases ht : a 11 = 1
        · have n0 : ¬ u7 = 0 := fun z => by have := t0.mp z; omega
          simp only [if_neg n0, if_pos ht]
          have e0 : nI s + 0 = nI s := nI_add s 0
          rw [e0]
          have := ih v s (k + 1) f (n_X1_countHit v4 v5 u7).1 (n_X1_countHit v4 v5 u7).2 hf hv hv2 (by omega) (by omega)
          rw [if_pos ht] at this
          exact this
        · have n0 : u7 = 0 := t0.mpr (by omega)
          have ev : (if 200 < (f i + 10) then (200 : Int32) else f i + 10) = nI (if 200 ≤ v then v else v + 10) := by
            have e10 : f i + 10 = nI (v + 10) := by rw [hf]; exact nI_add _ 10
            rw [e10, lI200]
            by_cases q : 200 ≤ v
            · rw [if_pos q, if_pos ((nI_ltI (by omega) (by omega)).mpr (by omega))]
              congr 1; omega
            · rw [if_neg q, if_neg (fun z => by have := (nI_ltI (by omega) (by omega)).mp z; omega)]
          simp only [if_pos n0, if_neg ht]
          rw [ev, hf, h1, pk_mul, nI_add]
          have := ih (if 200 ≤ v then v else v + 10) (s + v * a 5) (k + 1) (upd f i (nI (if 200 ≤ v then v else v + 10))) (n_X1_countHit v4 v5 u7).1 (n_X1_countHit v4 v5 u7).2 pk_us (by split <;> omega) (by split <;> omega) (by omega) (by omega)
          rw [if_neg ht] at this
          rw [this]
          have e2 : y - k = (y - (k + 1)) + 1 := by omega
          rw [e2]
          congr 1
          rw [bS, Nat.add_mul]
          omega
  unfold n_X8_simulatedBumper mBumps
  have := L (n_X1_copyFrom flq fbq fdq u1 u2 u3 u4 u5 u6 u7 u8 fl fb fd) eu1' rfl 51 (a (20 + i)) 0 0 (n_X1_copyFrom flq fbq fdq u1 u2 u3 u4 u5 u6 u7 u8 fl fb fd).2.2.2.2.2.2.2.2.2.1 (n_X1_copyFrom flq fbq fdq u1 u2 u3 u4 u5 u6 u7 u8 fl fb fd).2.2.2.1 (n_X1_copyFrom flq fbq fdq u1 u2 u3 u4 u5 u6 u7 u8 fl fb fd).2.2.2.2.2.1 (by
    show va_cpy fb fbq 0 0 3 i = _
    rw [pk_cpy_in (by omega) (by omega), Nat.zero_add, Nat.sub_zero]
    exact hfb i hi) bi.1 bi.2 (by omega) (by omega)
  rw [Nat.zero_add, Nat.sub_zero] at this
  exact this
theorem c_simL (h : zAg a p1 p2 p3 p4 p5 fs fx u1 u2 u3 u4 u5 u6 u7 u8 fl fb fd r1 fr0 fr1 fr2 w1 w2 w3 fp) (hB : zBd b a) (hr : a 0 = 1) (flq fbq fdq : Nat → Int32) : (n_X8_simulatedLanes u1 u2 u3 u4 u5 u6 u7 u8 fl fb fd flq fbq fdq).1 = nI (mLanes a) := by
  obtain ⟨e1, e2, e3, e4, e5, hfs, hfx, eu1, eu2, eu3, eu4, eu5, eu6, eu7, eu8, hfl, hfb, hfd, er, hR, ew1, ew2, ew3, hfp⟩ := h
  obtain ⟨g0, g1, g2, g3, g4, g5, g6, g7, g8, g9, g10, g11, g12, g13, g14, g15, gl, gb, gd, gr, gp, gz⟩ := hB
  obtain ⟨r1', r2', r3', r4', r5', r6'⟩ := gr hr
  have eu1' : u1 = nI (a 5) := by rw [eu1, if_neg (by omega)]
  have l0 := gl 0 (by omega)
  have l1 := gl 1 (by omega)
  have l2 := gl 2 (by omega)
  have l3 := gl 3 (by omega)
  have f0 := hfl 0 (by omega)
  have f1 := hfl 1 (by omega)
  have f2 := hfl 2 (by omega)
  have f3 := hfl 3 (by omega)
  simp only [Nat.reduceAdd] at l0 l1 l2 l3 f0 f1 f2 f3
  have t0 : u7 = 0 ↔ a 11 = 0 := by rw [eu7, lI0]; exact nI_eq (by omega) (by omega)
  have b01 : ∀ x, x ≤ 1 → x = 0 ∨ x = 1 := fun x h => by omega
  have i0 : nI 0 = 0 := rfl
  have i1 : nI 1 = 1 := rfl
  have h10 : ¬ (1 : Int32) = 0 := by decide
  unfold mLanes
  by_cases ht : a 11 = 1
  · have n0 : ¬ u7 = 0 := fun z => by have := t0.mp z; omega
    rw [if_pos ht, i0]
    rcases b01 _ l0 with q0 | q0 <;> rcases b01 _ l1 with q1 | q1 <;> rcases b01 _ l2 with q2 | q2 <;> rcases b01 _ l3 with q3 | q3 <;> rw [q0, ] at f0 <;> rw [q1] at f1 <;> rw [q2] at f2 <;> rw [q3] at f3 <;> simp only [i0, i1] at f0 f1 f2 f3 <;> simp [n_X8_simulatedLanes, n_X1_copyFrom, n_X1_strikeLane, n0, f0, f1, f2, f3]
  · have n0 : u7 = 0 := t0.mpr (by omega)
    rw [if_neg ht]
    have z0 : ∀ n, (0 : Int32) + nI n = nI n := fun n => by rw [lI0, nI_add, Nat.zero_add]
    rcases b01 _ l0 with q0 | q0 <;> rcases b01 _ l1 with q1 | q1 <;> rcases b01 _ l2 with q2 | q2 <;> rcases b01 _ l3 with q3 | q3 <;> rw [q0, q1, q2, q3] <;> rw [q0] at f0 <;> rw [q1] at f1 <;> rw [q2] at f2 <;> rw [q3] at f3 <;> simp only [i0, i1] at f0 f1 f2 f3 <;> simp (disch := omega) [n_X8_simulatedLanes, n_X1_copyFrom, n_X1_strikeLane, n_X8_allTrue4, pk_us, pk_un, n0, f0, f1, f2, f3] <;> (try simp only [eu1', lI100, pk_mul, nI_add, z0]) <;> (first | rfl | (congr 1; omega))
end RE
