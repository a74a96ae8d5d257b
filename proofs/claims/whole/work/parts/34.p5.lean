def zSafe (g : Nat → Int32) : Prop := zle (g 2) 4 ∧ zle (g 3) 3 ∧ zle (g 13) 5 ∧ (g 0 = 1 → 1 ≤ zn (g 2))
theorem runs_1 {g : Nat → Int32} (h : ¬ n_X9_runs g = 0) : g 0 = 1 := by
  unfold n_X9_runs at h
  split at h
  · assumption
  · exact absurd rfl h
theorem in_ok {x y z : Int32} {a b : Nat} (hy : zi y a) (hz : zi z b) (ha : a < 2 ^ 31) (hb : b < 2 ^ 31) (h : ¬ n_X9_in x y z = 0) : zi x (zn x) ∧ a ≤ zn x ∧ zn x ≤ b := by
  unfold n_X9_in at h
  split at h
  · exact absurd rfl h
  · rename_i c1
    split at h
    · exact absurd rfl h
    · rename_i c2
      have e1 : y.toInt = a := by rw [hy]; exact nI_toInt ha
      have e2 : z.toInt = b := by rw [hz]; exact nI_toInt hb
      have h1 := Int32.le_iff_toInt_le.mp (Int32.not_lt.mp c1)
      have h2 := Int32.le_iff_toInt_le.mp (Int32.not_lt.mp c2)
      have h0 : ¬ x < 0 := by
        intro q
        have := Int32.lt_iff_toInt_lt.mp q
        rw [Int32.toInt_zero] at this
        omega
      obtain ⟨j, hj, rfl⟩ := nI_of h0
      rw [nI_toInt hj] at h1 h2
      have e : zn (nI j) = j := zn_of (zi_i j) hj
      exact ⟨by rw [e]; exact zi_i j, by omega, by omega⟩
theorem chit_ok {w r : Int32} (h : (if w = 0 then (1 : Int32) else if r = 0 then 2 else 0) ≤ 0) : ¬ w = 0 ∧ ¬ r = 0 := by
  split at h
  · exact absurd h (by decide)
  · split at h
    · exact absurd h (by decide)
    · exact ⟨by assumption, by assumption⟩
theorem chit4_ok {g : Nat → Int32} {x : Int32} (h : n_X9_cannotHit4 g x ≤ 0) : zi x (zn x) ∧ zn x ≤ 3 ∧ g 0 = 1 := by
  have q := chit_ok (w := n_X9_in x 0 3) (r := n_X9_runs g) h
  have a := in_ok (zlit 0) (zlit 3) (by decide) (by decide) q.1
  exact ⟨a.1, a.2.2, runs_1 q.2⟩
theorem chit3_ok {g : Nat → Int32} {x : Int32} (h : n_X9_cannotHit3 g x ≤ 0) : zi x (zn x) ∧ zn x ≤ 2 ∧ g 0 = 1 := by
  have q := chit_ok (w := n_X9_in x 0 2) (r := n_X9_runs g) h
  have a := in_ok (zlit 0) (zlit 2) (by decide) (by decide) q.1
  exact ⟨a.1, a.2.2, runs_1 q.2⟩
theorem chit5_ok {g : Nat → Int32} {x : Int32} (h : n_X9_cannotHit5 g x ≤ 0) : zi x (zn x) ∧ zn x ≤ 4 ∧ g 0 = 1 := by
  have q := chit_ok (w := n_X9_in x 0 4) (r := n_X9_runs g) h
  have a := in_ok (zlit 0) (zlit 4) (by decide) (by decide) q.1
  exact ⟨a.1, a.2.2, runs_1 q.2⟩
theorem cnud_ok {g : Nat → Int32} {x : Int32} (h : n_X9_cannotNudge g x ≤ 0) : zi x (zn x) ∧ 1 ≤ zn x ∧ zn x ≤ 3 ∧ g 0 = 1 := by
  have q := chit_ok (w := n_X9_in x 1 3) (r := n_X9_runs g) h
  have a := in_ok (zlit 1) (zlit 3) (by decide) (by decide) q.1
  exact ⟨a.1, a.2.1, a.2.2, runs_1 q.2⟩
theorem cadd_ok {g : Nat → Int32} (hg : zle (g 2) 4) (h : n_X9_cannotAdd g ≤ 0) : ¬ g 0 = 1 ∧ zn (g 2) ≤ 3 := by
  have hb := hg.2
  have h0 : ¬ g 0 = 1 := by
    intro z
    have e : n_X9_cannotAdd g = 1 := by
      have : n_X9_runs g = 1 := if_pos z
      simp only [n_X9_cannotAdd, this]
      exact if_neg (by decide)
    rw [e] at h
    exact absurd h (by decide)
  refine ⟨h0, ?_⟩
  have h4 : ¬ g 2 = 4 := by
    intro z
    have e : n_X9_cannotAdd g = 1 := by
      have : n_X9_runs g = 0 := if_neg h0
      simp only [n_X9_cannotAdd, this, if_pos z, if_true]
    rw [e] at h
    exact absurd h (by decide)
  have : ¬ zn (g 2) = 4 := fun z => h4 (zi_eq hg.1 (zlit 4) z)
  omega
