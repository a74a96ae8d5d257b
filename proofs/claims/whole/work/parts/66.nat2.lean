theorem e_extra {a : Nat → Nat} {c : Nat} (h : a (34 + c) ≤ 3) : n_X9_givesExtra (zF a) c = zF (mExtra a c) := by
  unfold n_X9_givesExtra mExtra
  by_cases h3 : 3 ≤ a (34 + c)
  · simp (disch := omega) [lI0, lI1, lI2, lI3, lI4, lI5, lI6, lI8, lI9, lI10, lI20, lI50, lI100, lI200, lI400, lI300, lI5000, nI_add, pk_mul, nI_eq, nI_leI, nI_ltI, um_n, um_s, zF_at, zF_up, h3]
  · simp (disch := omega) [lI0, lI1, lI2, lI3, lI4, lI5, lI6, lI8, lI9, lI10, lI20, lI50, lI100, lI200, lI400, lI300, lI5000, nI_add, pk_mul, nI_eq, nI_leI, nI_ltI, um_n, um_s, zF_at, zF_up, h3]
theorem e_scores {a : Nat → Nat} {k x : Nat} (hk : k ≤ 3) (h3 : a 3 ≤ 3) (hb : a (30 + a 3) + x * a 5 < 2 ^ 31) (hx : a (34 + a 3) ≤ 3) (h38 : a (38 + a 3) ≤ 1) : n_X9_scores (zF a) k (nI x) = (nI (x * a 5), zF (mScores a k (x * a 5))) := by
  unfold n_X9_scores mScores
  have e3 : zn (nI (a 3)) = a 3 := zn_I (by omega)
  generalize hy : x * a 5 = y at *
  by_cases h : a (30 + a 3) + y < 5000
  · simp (disch := omega) [lI0, lI1, lI2, lI3, lI4, lI5, lI6, lI8, lI9, lI10, lI20, lI50, lI100, lI200, lI400, lI300, lI5000, nI_add, pk_mul, nI_eq, nI_leI, nI_ltI, um_n, um_s, zF_at, zF_up, e3, hy, h]
  · by_cases h1 : a (38 + a 3) = 0
    · have ex : n_X9_givesExtra (zF (um (um (um a (42 + k) (a (42 + k) + y)) (30 + a 3) (a (30 + a 3) + y)) (38 + a 3) 1)) (a 3) = zF (mExtra (um (um (um a (42 + k) (a (42 + k) + y)) (30 + a 3) (a (30 + a 3) + y)) (38 + a 3) 1) (a 3)) := e_extra (by simp (disch := omega) only [um_n, um_s]; exact hx)
      simp (disch := omega) [lI0, lI1, lI2, lI3, lI4, lI5, lI6, lI8, lI9, lI10, lI20, lI50, lI100, lI200, lI400, lI300, lI5000, nI_add, pk_mul, nI_eq, nI_leI, nI_ltI, um_n, um_s, zF_at, zF_up, e3, hy, h, h1, ex]
    · simp (disch := omega) [lI0, lI1, lI2, lI3, lI4, lI5, lI6, lI8, lI9, lI10, lI20, lI50, lI100, lI200, lI400, lI300, lI5000, nI_add, pk_mul, nI_eq, nI_leI, nI_ltI, um_n, um_s, zF_at, zF_up, e3, hy, h, h1]
/-- what scoring leaves alone -/
theorem mScores_k {a : Nat → Nat} {k y j : Nat} (hk : k ≤ 3) (h3 : a 3 ≤ 3) (hj : j < 30 ∨ 46 ≤ j) : mScores a k y j = a j := by
  unfold mScores mExtra
  split
  · simp (disch := omega) only [um_n]
  · split
    · simp (disch := omega) only [um_n]
    · simp (disch := omega) only [um_n]
theorem mScores_30 {a : Nat → Nat} {k y c : Nat} (hk : k ≤ 3) (h3 : a 3 ≤ 3) (hc : c ≤ 3) : mScores a k y (30 + c) = if c = a 3 then a (30 + c) + y else a (30 + c) := by
  unfold mScores mExtra
  by_cases e : c = a 3
  · subst e
    rw [if_pos rfl]
    split
    · simp (disch := omega) only [um_n, um_s]
    · split
      · simp (disch := omega) only [um_n, um_s]
      · simp (disch := omega) only [um_n, um_s]
  · rw [if_neg e]
    split
    · simp (disch := omega) only [um_n, um_s]
    · split
      · simp (disch := omega) only [um_n, um_s]
      · simp (disch := omega) only [um_n, um_s]
theorem mScores_38 {a : Nat → Nat} {k y c : Nat} (hk : k ≤ 3) (h3 : a 3 ≤ 3) (hc : c ≤ 3) : mScores a k y (38 + c) = if c = a 3 ∧ 5000 ≤ a (30 + c) + y ∧ a (38 + c) = 0 then 1 else a (38 + c) := by
  unfold mScores mExtra
  by_cases e : c = a 3
  · subst e
    by_cases h : a (30 + a 3) + y < 5000
    · have h' : ¬ 5000 ≤ a (30 + a 3) + y := by omega
      simp (disch := omega) [um_n, um_s, h, h']
    · have h' : 5000 ≤ a (30 + a 3) + y := by omega
      by_cases h0 : a (38 + a 3) = 0
      · simp (disch := omega) [um_n, um_s, h, h', h0]
      · simp (disch := omega) [um_n, um_s, h, h', h0]
  · have e' : ¬ (c = a 3 ∧ 5000 ≤ a (30 + c) + y ∧ a (38 + c) = 0) := fun h => e h.1
    rw [if_neg e']
    split
    · simp (disch := omega) only [um_n, um_s]
    · split
      · simp (disch := omega) only [um_n, um_s]
      · simp (disch := omega) only [um_n, um_s]
theorem mScores_34 {a : Nat → Nat} {k y c : Nat} (hk : k ≤ 3) (h3 : a 3 ≤ 3) (hc : c ≤ 3) : mScores a k y (34 + c) = if c = a 3 ∧ 5000 ≤ a (30 + c) + y ∧ a (38 + c) = 0 then (if 3 ≤ a (34 + c) then a (34 + c) else a (34 + c) + 1) else a (34 + c) := by
  unfold mScores mExtra
  by_cases e : c = a 3
  · subst e
    by_cases h : a (30 + a 3) + y < 5000
    · have h' : ¬ 5000 ≤ a (30 + a 3) + y := by omega
      simp (disch := omega) [um_n, um_s, h, h']
    · have h' : 5000 ≤ a (30 + a 3) + y := by omega
      by_cases h0 : a (38 + a 3) = 0
      · simp (disch := omega) [um_n, um_s, h, h', h0]
      · simp (disch := omega) [um_n, um_s, h, h', h0]
  · have e' : ¬ (c = a 3 ∧ 5000 ≤ a (30 + c) + y ∧ a (38 + c) = 0) := fun h => e h.1
    rw [if_neg e']
    split
    · simp (disch := omega) only [um_n, um_s]
    · split
      · simp (disch := omega) only [um_n, um_s]
      · simp (disch := omega) only [um_n, um_s]
theorem mScores_42 {a : Nat → Nat} {k y c : Nat} (hk : k ≤ 3) (h3 : a 3 ≤ 3) (hc : c ≤ 3) : mScores a k y (42 + c) = if c = k then a (42 + c) + y else a (42 + c) := by
  unfold mScores mExtra
  by_cases e : c = k
  · subst e
    rw [if_pos rfl]
    split
    · simp (disch := omega) only [um_n, um_s]
    · split
      · simp (disch := omega) only [um_n, um_s]
      · simp (disch := omega) only [um_n, um_s]
  · rw [if_neg e]
    split
    · simp (disch := omega) only [um_n, um_s]
    · split
      · simp (disch := omega) only [um_n, um_s]
      · simp (disch := omega) only [um_n, um_s]
/-- the class's award -/
theorem e_award {a : Nat → Nat} {k y : Nat} (W : Nat) (hk : k ≤ 3) (h3 : a 3 ≤ 3) (hb : a (30 + a 3) + y < 2 ^ 31) (hx : a (34 + a 3) ≤ 3) (h38 : 5000 ≤ a (30 + a 3) ∧ a (38 + a 3) = 1 ∨ a (30 + a 3) < 5000 ∧ a (38 + a 3) = 0) (fs fx fp : Nat → Int32) (hs : ∀ j, j < 4 → fs j = nI (a (30 + j))) (hfx : ∀ j, j < 4 → fx j = nI (a (34 + j))) (hp : ∀ j, j < 4 → fp j = nI (a (42 + j))) :
    (∀ j, j < 4 → (n_X6_award (nI (a 3)) fs fx (nI W) fp k (nI y)).1 j = nI (mScores a k y (30 + j))) ∧ (∀ j, j < 4 → (n_X6_award (nI (a 3)) fs fx (nI W) fp k (nI y)).2.1 j = nI (mScores a k y (34 + j))) ∧ (n_X6_award (nI (a 3)) fs fx (nI W) fp k (nI y)).2.2.1 = nI (W + y) ∧ (∀ j, j < 4 → (n_X6_award (nI (a 3)) fs fx (nI W) fp k (nI y)).2.2.2 j = nI (mScores a k y (42 + j))) := by
  have e3 : zn (nI (a 3)) = a 3 := zn_I (by omega)
  have hs3 := hs (a 3) (by omega)
  have hfx3 := hfx (a 3) (by omega)
  have A0 : ∀ j, j < 4 → upd fs (a 3) (fs (a 3) + nI y) j = nI (mScores a k y (30 + j)) := by
    intro j hj
    rw [mScores_30 hk h3 (by omega)]
    by_cases e : j = a 3
    · subst e; rw [pk_us, if_pos rfl, hs3, nI_add]
    · rw [pk_un e, if_neg e]; exact hs j hj
  have A2 : ∀ j, j < 4 → upd fp k (fp k + nI y) j = nI (mScores a k y (42 + j)) := by
    intro j hj
    rw [mScores_42 hk h3 (by omega)]
    by_cases e : j = k
    · subst e; rw [pk_us, if_pos rfl, hp j hj, nI_add]
    · rw [pk_un e, if_neg e]; exact hp j hj
  unfold n_X6_award n_X6_reachesMilestone n_X6_gainExtraBall
  rw [e3]
  by_cases h : a (30 + a 3) + y < 5000
  · have A1 : ∀ j, j < 4 → fx j = nI (mScores a k y (34 + j)) := by
      intro j hj
      rw [mScores_34 hk h3 (by omega), if_neg (by
        rintro ⟨q, q1, _⟩
        rw [q] at q1; omega)]
      exact hfx j hj
    have hc : (if 5000 ≤ fs (a 3) then (0 : Int32) else if fs (a 3) + nI y < 5000 then 0 else 1) = 0 := by
      rw [hs3, nI_add, lI5000, if_neg (fun q => by have := (nI_leI (by omega) (by omega)).mp q; omega), if_pos ((nI_ltI (by omega) (by omega)).mpr h)]
    simp only [hc, if_true, nI_add]
    exact ⟨A0, A1, trivial, A2⟩
  · by_cases h5 : 5000 ≤ a (30 + a 3)
    · have A1 : ∀ j, j < 4 → fx j = nI (mScores a k y (34 + j)) := by
        intro j hj
        rw [mScores_34 hk h3 (by omega), if_neg (by
          rintro ⟨q, _, q2⟩
          rw [q] at q2; omega)]
        exact hfx j hj
      have hc : (if 5000 ≤ fs (a 3) then (0 : Int32) else if fs (a 3) + nI y < 5000 then 0 else 1) = 0 := by
        rw [hs3, lI5000, if_pos ((nI_leI (by omega) (by omega)).mpr h5)]
      simp only [hc, if_true, nI_add]
      exact ⟨A0, A1, trivial, A2⟩
    · have A1 : ∀ j, j < 4 → upd fx (a 3) (if 3 < fx (a 3) + 1 then 3 else fx (a 3) + 1) j = nI (mScores a k y (34 + j)) := by
        intro j hj
        rw [mScores_34 hk h3 (by omega)]
        by_cases e : j = a 3
        · subst e
          have r : ∀ X Z : Nat, (if a 3 = a 3 ∧ 5000 ≤ a (30 + a 3) + y ∧ a (38 + a 3) = 0 then X else Z) = X := fun X Z => if_pos ⟨rfl, by omega, by omega⟩
          rw [r, pk_us, hfx3, nI_1]
          by_cases q : 3 ≤ a (34 + a 3)
          · rw [if_pos q, lI3, if_pos ((nI_ltI (by omega) (by omega)).mpr (by omega))]
            congr 1; omega
          · rw [if_neg q, lI3, if_neg (fun r => by have := (nI_ltI (by omega) (by omega)).mp r; omega)]
        · rw [pk_un e, if_neg (fun q => e q.1)]; exact hfx j hj
      have hc : (if 5000 ≤ fs (a 3) then (0 : Int32) else if fs (a 3) + nI y < 5000 then 0 else 1) = 1 := by
        rw [hs3, nI_add, lI5000, if_neg (fun q => by have := (nI_leI (by omega) (by omega)).mp q; omega), if_neg (fun q => by have := (nI_ltI (by omega) (by omega)).mp q; omega)]
      have h10 : ¬ (1 : Int32) = 0 := by decide
      simp only [hc, h10, if_false, nI_add]
      exact ⟨A0, A1, trivial, A2⟩
