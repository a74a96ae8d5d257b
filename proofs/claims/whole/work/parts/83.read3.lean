section RF
variable {b : Nat} {a : Nat → Nat} {p1 p2 p3 p4 p5 : Int32} {fs fx : Nat → Int32} {u1 u2 u3 u4 u5 u6 u7 u8 : Int32} {fl fb fd : Nat → Int32} {r1 : Int32} {fr0 fr1 fr2 : Nat → Int32} {w1 w2 w3 : Int32} {fp : Nat → Int32}
theorem c_sorted (h : zAg a p1 p2 p3 p4 p5 fs fx u1 u2 u3 u4 u5 u6 u7 u8 fl fb fd r1 fr0 fr1 fr2 w1 w2 w3 fp) (hI : zInv b a) : n_X4_areSorted r1 fr0 fr1 fr2 = 1 := by
  obtain ⟨hB, hr⟩ := hI
  obtain ⟨e1, e2, e3, e4, e5, hfs, hfx, eu1, eu2, eu3, eu4, eu5, eu6, eu7, eu8, hfl, hfb, hfd, er, hR, ew1, ew2, ew3, hfp⟩ := h
  obtain ⟨g0, g1, g2, g3, g4, g5, g6, g7, g8, g9, g10, g11, g12, g13, g14, g15, gl, gb, gd, gr, gp, gz⟩ := hB
  obtain ⟨b1, b2⟩ := hr
  have B : ∀ i, i + 1 < a 13 → n_X4_isBefore fr0 fr1 fr2 i (i + 1) = 1 := by
    intro i hi
    obtain ⟨x1, x2, x3⟩ := hR i (by omega)
    obtain ⟨y1, y2, y3⟩ := hR (i + 1) (by omega)
    have s1 := b1 i (by omega)
    have s2 := b1 (i + 1) (by omega)
    have s3 := b2 i hi
    unfold zBe at s3
    rw [show 47 + 3 * i = 46 + 3 * i + 1 from by omega, show 48 + 3 * i = 46 + 3 * i + 2 from by omega, show 47 + 3 * (i + 1) = 46 + 3 * (i + 1) + 1 from by omega, show 48 + 3 * (i + 1) = 46 + 3 * (i + 1) + 2 from by omega] at s3
    rw [show 47 + 3 * i = 46 + 3 * i + 1 from by omega, show 48 + 3 * i = 46 + 3 * i + 2 from by omega] at s1
    rw [show 47 + 3 * (i + 1) = 46 + 3 * (i + 1) + 1 from by omega, show 48 + 3 * (i + 1) = 46 + 3 * (i + 1) + 2 from by omega] at s2
    unfold n_X4_isBefore
    rw [x1, x2, x3, y1, y2, y3]
    generalize a (46 + 3 * i) = A at *
    generalize a (46 + 3 * i + 1) = A1 at *
    generalize a (46 + 3 * i + 2) = A2 at *
    generalize a (46 + 3 * (i + 1)) = C at *
    generalize a (46 + 3 * (i + 1) + 1) = C1 at *
    generalize a (46 + 3 * (i + 1) + 2) = C2 at *
    by_cases q : A = C
    · rw [if_pos (by rw [q])]
      by_cases q2 : A2 = C2
      · rw [if_pos (by rw [q2]), if_neg (fun z => by have := (nI_leI (by omega) (by omega)).mp z; omega)]
      · rw [if_neg (fun z => q2 ((nI_eq (by omega) (by omega)).mp z)), if_neg (fun z => by have := (nI_leI (by omega) (by omega)).mp z; omega)]
    · rw [if_neg (fun z => q ((nI_eq (by omega) (by omega)).mp z)), if_neg (fun z => by have := (nI_leI (by omega) (by omega)).mp z; omega)]
  have L : ∀ n, n < 10 → (r1 ≤ nI n ↔ a 13 ≤ n) := fun n hn => by rw [er]; exact nI_leI (by omega) (by omega)
  have L1 : r1 ≤ 1 ↔ a 13 ≤ 1 := L 1 (by omega)
  have L2 : r1 ≤ 2 ↔ a 13 ≤ 2 := L 2 (by omega)
  have L3 : r1 ≤ 3 ↔ a 13 ≤ 3 := L 3 (by omega)
  have L4 : r1 ≤ 4 ↔ a 13 ≤ 4 := L 4 (by omega)
  have h10 : ¬ (1 : Int32) = 0 := by decide
  unfold n_X4_areSorted
  by_cases q1 : a 13 ≤ 1
  · rw [if_pos (L1.mpr q1)]
  have B0 := B 0 (by omega)
  rw [if_neg (fun z => q1 (L1.mp z))]
  simp only [Nat.zero_add] at B0
  rw [B0]
  simp only [h10, if_false]
  by_cases q2 : a 13 ≤ 2
  · rw [if_pos (L2.mpr q2)]
  have B1 := B 1 (by omega)
  simp only [Nat.reduceAdd] at B1
  rw [if_neg (fun z => q2 (L2.mp z)), B1]
  simp only [h10, if_false]
  by_cases q3 : a 13 ≤ 3
  · rw [if_pos (L3.mpr q3)]
  have B2 := B 2 (by omega)
  simp only [Nat.reduceAdd] at B2
  rw [if_neg (fun z => q3 (L3.mp z)), B2]
  simp only [h10, if_false]
  by_cases q4 : a 13 ≤ 4
  · rw [if_pos (L4.mpr q4)]
  have B3 := B 3 (by omega)
  simp only [Nat.reduceAdd] at B3
  rw [if_neg (fun z => q4 (L4.mp z)), B3]
  simp only [h10, if_false]
theorem c_addUp (h : zAg a p1 p2 p3 p4 p5 fs fx u1 u2 u3 u4 u5 u6 u7 u8 fl fb fd r1 fr0 fr1 fr2 w1 w2 w3 fp) : n_X7_addUp w1 fp = 1 := by
  obtain ⟨e1, e2, e3, e4, e5, hfs, hfx, eu1, eu2, eu3, eu4, eu5, eu6, eu7, eu8, hfl, hfb, hfd, er, hR, ew1, ew2, ew3, hfp⟩ := h
  unfold n_X7_addUp
  rw [hfp 0 (by omega), hfp 1 (by omega), hfp 2 (by omega), hfp 3 (by omega), ew1, lI0, nI_add, nI_add, nI_add, nI_add]
  simp only [Nat.reduceAdd, Nat.zero_add, if_true]
theorem c_preds (h : zAg a p1 p2 p3 p4 p5 fs fx u1 u2 u3 u4 u5 u6 u7 u8 fl fb fd r1 fr0 fr1 fr2 w1 w2 w3 fp) (hB : zBd b a) (hr : a 0 = 1) (flq fbq fdq : Nat → Int32) : (n_X8_predictionsAgree u1 u2 u3 u4 u5 u6 u7 u8 fl fb fd flq fbq fdq).1 = 1 := by
  have L2 : ∀ (i : Nat), i < 3 → ∀ k0, (∀ f5 f6 f7 v8 v9 v10 v11 v12 v13 v14 v15, (k0 f5 f6 f7 v8 v9 v10 v11 v12 v13 v14 v15 (i + 1) : Int32 × Int32 × Int32 × Int32 × Int32 × Int32 × Int32 × Int32 × Int32 × (Nat → Int32) × (Nat → Int32) × (Nat → Int32)).1 = 1) → ∀ n f5 f6 f7 v8 v9 v10 v11 v12 v13 v14 v15 y, y ≤ 21 → 21 - y < n → (n_X8_predictionsAgree_L2 u1 u2 u3 u4 u5 u6 u7 u8 fl fb fd i k0 n f5 f6 f7 v8 v9 v10 v11 v12 v13 v14 v15 y).1 = 1 := by
    intro i hi k0 hk n
    induction n with
    | zero => intro f5 f6 f7 v8 v9 v10 v11 v12 v13 v14 v15 y _ h; omega
    | succ n ih =>
      intro f5 f6 f7 v8 v9 v10 v11 v12 v13 v14 v15 y hy hn
      unfold n_X8_predictionsAgree_L2
      by_cases e : 20 < y
      · have c : 20 < nI y := by rw [lI20]; exact (nI_ltI (by omega) (by omega)).mpr e
        rw [if_pos c]
        exact hk _ _ _ _ _ _ _ _ _ _ _
      · have c : ¬ 20 < nI y := by rw [lI20]; exact fun z => e ((nI_ltI (by omega) (by omega)).mp z)
        have q1 := c_simB h hB hr hi (y := y) (by omega) f5 f6 f7
        have q2 := c_series h hB hr hi (y := y) (by omega)
        have q : (n_X8_simulatedBumper u1 u2 u3 u4 u5 u6 u7 u8 fl fb fd f5 f6 f7 i (nI y)).1 = n_X1_bumperSeries u1 u7 fb (nI y) i := q1.trans q2.symm
        simp only [if_neg c, if_pos q]
        exact ih _ _ _ _ _ _ _ _ _ _ _ (y + 1) (by omega) (by omega)
  have L1 : ∀ n f5 f6 f7 v8 v9 v10 v11 v12 v13 v14 v15 x, x ≤ 3 → 3 - x < n → (n_X8_predictionsAgree_L1 u1 u2 u3 u4 u5 u6 u7 u8 fl fb fd n f5 f6 f7 v8 v9 v10 v11 v12 v13 v14 v15 x).1 = 1 := by
    intro n
    induction n with
    | zero => intro f5 f6 f7 v8 v9 v10 v11 v12 v13 v14 v15 x _ h; omega
    | succ n ih =>
      intro f5 f6 f7 v8 v9 v10 v11 v12 v13 v14 v15 x hx hn
      unfold n_X8_predictionsAgree_L1
      by_cases e : 3 ≤ x
      · have c : 3 ≤ nI x := by rw [lI3]; exact (nI_leI (by omega) (by omega)).mpr e
        rw [if_pos c]
      · have c : ¬ 3 ≤ nI x := by rw [lI3]; exact fun z => e ((nI_leI (by omega) (by omega)).mp z)
        rw [if_neg c]
        exact L2 x (by omega) _ (fun f5 f6 f7 v8 v9 v10 v11 v12 v13 v14 v15 => ih f5 f6 f7 v8 v9 v10 v11 v12 v13 v14 v15 (x + 1) (by omega) (by omega)) 22 _ _ _ _ _ _ _ _ _ _ _ 0 (by omega) (by omega)
  unfold n_X8_predictionsAgree
  have q : (n_X8_simulatedLanes u1 u2 u3 u4 u5 u6 u7 u8 fl fb fd flq fbq fdq).1 = n_X1_countedLanes u1 u7 fl := (c_simL h hB hr flq fbq fdq).trans (c_lanes h hB hr).symm
  simp only [if_pos q]
  exact L1 4 _ _ _ _ _ _ _ _ _ _ _ 0 (by omega) (by omega)
theorem c_consistent (h : zAg a p1 p2 p3 p4 p5 fs fx u1 u2 u3 u4 u5 u6 u7 u8 fl fb fd r1 fr0 fr1 fr2 w1 w2 w3 fp) (hI : zInv b a) (u1q u2q u3q u4q u5q u6q u7q u8q : Int32) (flq fbq fdq : Nat → Int32) : (n_X8_isConsistent p2 u1 u2 u3 u4 u5 u6 u7 u8 fl fb fd r1 fr0 fr1 fr2 w1 fp u1q u2q u3q u4q u5q u6q u7q u8q flq fbq fdq).1 = 1 := by
  have h10 : ¬ (1 : Int32) = 0 := by decide
  have e2 := h.2.1
  have g1 := hI.1.2.1
  unfold n_X8_isConsistent
  rw [c_addUp h, c_sorted h hI]
  by_cases q : a 0 = 1
  · have n2 : ¬ p2 = 0 := by rw [e2, q]; decide
    have q6 : ¬ (n_X8_predictionsAgree u1 u2 u3 u4 u5 u6 u7 u8 fl fb fd flq fbq fdq).1 = 0 := by rw [c_preds h hI.1 q]; exact h10
    simp only [if_neg n2, if_neg q6, if_neg h10]
  · have n2 : p2 = 0 := by rw [e2, show a 0 = 0 from by omega]; rfl
    simp only [if_pos n2, if_neg h10]
end RF
