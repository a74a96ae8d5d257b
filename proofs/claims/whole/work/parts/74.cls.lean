/-! the class's data are the model's -/
def zAg (a : Nat → Nat) (p1 p2 p3 p4 p5 : Int32) (fs fx : Nat → Int32) (u1 u2 u3 u4 u5 u6 u7 u8 : Int32) (fl fb fd : Nat → Int32) (r1 : Int32) (fr0 fr1 fr2 : Nat → Int32) (w1 w2 w3 : Int32) (fp : Nat → Int32) : Prop :=
  p1 = nI (a 2) ∧ p2 = nI (a 0) ∧ p3 = nI (a 1) ∧ p4 = nI (a 3) ∧ p5 = nI (a 4) ∧ (∀ j, j < 4 → fs j = nI (a (30 + j))) ∧ (∀ j, j < 4 → fx j = nI (a (34 + j)))
  ∧ u1 = nI (if a 5 = 0 then 1 else a 5) ∧ u2 = nI (a 6) ∧ u3 = nI (a 7) ∧ u4 = nI (a 8) ∧ u5 = nI (a 9) ∧ u6 = nI (a 10) ∧ u7 = nI (a 11) ∧ u8 = nI (a 12)
  ∧ (∀ j, j < 4 → fl j = nI (a (16 + j))) ∧ (∀ j, j < 3 → fb j = nI (a (20 + j))) ∧ (∀ j, j < 5 → fd j = nI (a (24 + j))) ∧ r1 = nI (a 13) ∧ zRw a fr0 fr1 fr2
  ∧ w1 = nI (a 42 + a 43 + a 44 + a 45) ∧ w2 = nI (a 14) ∧ w3 = nI (a 15) ∧ (∀ j, j < 4 → fp j = nI (a (42 + j)))
theorem zRw_k {a a' : Nat → Nat} {x y z : Nat → Int32} (h : zRw a x y z) (hk : ∀ j, 46 ≤ j → a' j = a j) : zRw a' x y z := fun j hj => by
  rw [hk _ (by omega), hk _ (by omega), hk _ (by omega)]; exact h j hj
theorem mS_W {a : Nat → Nat} {k y : Nat} (hk : k ≤ 3) (h3 : a 3 ≤ 3) : mScores a k y 42 + mScores a k y 43 + mScores a k y 44 + mScores a k y 45 = a 42 + a 43 + a 44 + a 45 + y := by
  have h0 := mScores_42 (y := y) hk h3 (c := 0) (by omega)
  have h1 := mScores_42 (y := y) hk h3 (c := 1) (by omega)
  have h2 := mScores_42 (y := y) hk h3 (c := 2) (by omega)
  have h3' := mScores_42 (y := y) hk h3 (c := 3) (by omega)
  simp only [Nat.reduceAdd] at h0 h1 h2 h3'
  rw [h0, h1, h2, h3']
  obtain rfl | rfl | rfl | rfl : k = 0 ∨ k = 1 ∨ k = 2 ∨ k = 3 := by omega
  all_goals simp
  all_goals omega
theorem c_meter {m : Nat} (h : m < 2 ^ 31) : (if nI m - 1 < 0 then (0 : Int32) else nI m - 1) = nI (m - 1) := by
  by_cases e : m = 0
  · subst e; decide
  · have q : nI m - 1 = nI (m - 1) := by rw [lI1]; exact pk_sub (by omega)
    rw [q, if_neg (by rw [lI0]; exact fun z => by have := (nI_ltI (by omega) (by omega)).mp z; omega)]
theorem c_count {m n t : Nat} (h : m < 2 ^ 31) (ht : t ≤ 1) : n_X1_countHit (nI m) (nI n) (nI t) = if t = 1 then (nI m, nI (n + 1)) else (nI (m - 1), nI (n + 1)) := by
  unfold n_X1_countHit
  by_cases e : t = 1
  · subst e
    rw [if_neg (by decide), nI_1, if_pos rfl]
  · have : t = 0 := by omega
    subst this
    rw [if_pos (by decide), nI_1, c_meter h, if_neg (by decide)]
/-- no points: nothing moves -/
theorem mScores_0 {a : Nat → Nat} {k : Nat} (hk : k ≤ 3) (h3 : a 3 ≤ 3) (hp : 5000 ≤ a (30 + a 3) ∧ a (38 + a 3) = 1 ∨ a (30 + a 3) < 5000 ∧ a (38 + a 3) = 0) (c : Nat) (hc : c < 4) : mScores a k 0 (30 + c) = a (30 + c) ∧ mScores a k 0 (34 + c) = a (34 + c) ∧ mScores a k 0 (42 + c) = a (42 + c) := by
  rw [mScores_30 hk h3 (by omega), mScores_34 hk h3 (by omega), mScores_42 hk h3 (by omega)]
  refine ⟨?_, ?_, ?_⟩
  · split <;> rfl
  · rw [if_neg]
    rintro ⟨e, h1, h2⟩
    rw [e] at h1 h2
    omega
  · split <;> rfl
theorem c_all4 {fl : Nat → Int32} {f : Nat → Nat} (h : ∀ j, j < 4 → fl j = nI (f (16 + j))) (hb : ∀ j, j < 4 → f (16 + j) ≤ 1) : n_X8_allTrue4 fl = 0 ∧ mFullL f = f ∨ n_X8_allTrue4 fl = 1 ∧ mFullL f = um (um (um (um (um f 16 0) 17 0) 18 0) 19 0) 5 (if 6 ≤ f 5 then f 5 else f 5 + 1) := by
  have z : ∀ j, j < 4 → (fl j = 0 ↔ f (16 + j) = 0) := fun j hj => by
    have := hb j hj
    rw [h j hj, lI0]; exact nI_eq (by omega) (by omega)
  have z0 := z 0 (by omega)
  have z1 := z 1 (by omega)
  have z2 := z 2 (by omega)
  have z3 := z 3 (by omega)
  simp only [Nat.reduceAdd] at z0 z1 z2 z3
  unfold n_X8_allTrue4 mFullL
  simp only [z0, z1, z2, z3]
  repeat' split
  all_goals simp
theorem c_all5 {fd : Nat → Int32} {f : Nat → Nat} (h : ∀ j, j < 5 → fd j = nI (f (24 + j))) (hb : ∀ j, j < 5 → f (24 + j) ≤ 1) : n_X8_allTrue5 fd = 0 ∧ mFullT f = f ∨ n_X8_allTrue5 fd = 1 ∧ mFullT f = mBank (um (um (um (um (um f 24 0) 25 0) 26 0) 27 0) 28 0) := by
  have z : ∀ j, j < 5 → (fd j = 0 ↔ f (24 + j) = 0) := fun j hj => by
    have := hb j hj
    rw [h j hj, lI0]; exact nI_eq (by omega) (by omega)
  have z0 := z 0 (by omega)
  have z1 := z 1 (by omega)
  have z2 := z 2 (by omega)
  have z3 := z 3 (by omega)
  have z4 := z 4 (by omega)
  simp only [Nat.reduceAdd] at z0 z1 z2 z3 z4
  unfold n_X8_allTrue5 mFullT
  simp only [z0, z1, z2, z3, z4]
  repeat' split
  all_goals simp
section CLS
variable {b : Nat} {a : Nat → Nat} {p1 p2 p3 p4 p5 : Int32} {fs fx : Nat → Int32} {u1 u2 u3 u4 u5 u6 u7 u8 : Int32} {fl fb fd : Nat → Int32} {r1 : Int32} {fr0 fr1 fr2 : Nat → Int32} {w1 w2 w3 : Int32} {fp : Nat → Int32}
/-- the common part of the three hits: what the award writes -/
theorem f_award (h : zAg a p1 p2 p3 p4 p5 fs fx u1 u2 u3 u4 u5 u6 u7 u8 fl fb fd r1 fr0 fr1 fr2 w1 w2 w3 fp) (hB : zBd b a) (k y : Nat) (hk : k ≤ 3) (hy : y ≤ 1000000000) (f : Nat → Nat) (hf : ∀ j, 30 ≤ j → j < 46 → f j = a j) (hf3 : f 3 = a 3) :
    (∀ j, j < 4 → (n_X6_award p4 fs fx w1 fp k (nI y)).1 j = nI (mScores f k y (30 + j))) ∧ (∀ j, j < 4 → (n_X6_award p4 fs fx w1 fp k (nI y)).2.1 j = nI (mScores f k y (34 + j))) ∧ (n_X6_award p4 fs fx w1 fp k (nI y)).2.2.1 = nI (mScores f k y 42 + mScores f k y 43 + mScores f k y 44 + mScores f k y 45) ∧ (∀ j, j < 4 → (n_X6_award p4 fs fx w1 fp k (nI y)).2.2.2 j = nI (mScores f k y (42 + j))) := by
  obtain ⟨e1, e2, e3, e4, e5, hfs, hfx, eu1, eu2, eu3, eu4, eu5, eu6, eu7, eu8, hfl, hfb, hfd, er, hR, ew1, ew2, ew3, hfp⟩ := h
  obtain ⟨g0, g1, g2, g3, g4, g5, g6, g7, g8, g9, g10, g11, g12, g13, g14, g15, gl, gb, gd, gr, gp, gz⟩ := hB
  have gp3 := gp (a 3) (by omega)
  have W := mS_W (a := f) (k := k) (y := y) hk (by omega)
  rw [hf 42 (by omega) (by omega), hf 43 (by omega) (by omega), hf 44 (by omega) (by omega), hf 45 (by omega) (by omega)] at W
  rw [W, e4, ew1, ← hf3]
  refine e_award (a := f) (a 42 + a 43 + a 44 + a 45) hk (by omega) ?_ ?_ ?_ fs fx fp ?_ ?_ ?_
  · rw [hf3, hf _ (by omega) (by omega)]; omega
  · rw [hf3, hf _ (by omega) (by omega)]; omega
  · rw [hf3, hf _ (by omega) (by omega), hf _ (by omega) (by omega)]; exact gp3.2.2.2
  · intro j hj; rw [hf _ (by omega) (by omega)]; exact hfs j hj
  · intro j hj; rw [hf _ (by omega) (by omega)]; exact hfx j hj
  · intro j hj; rw [hf _ (by omega) (by omega)]; exact hfp j hj
end CLS
