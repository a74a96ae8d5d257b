section CLD
variable {b : Nat} {a : Nat → Nat} {p1 p2 p3 p4 p5 : Int32} {fs fx : Nat → Int32} {u1 u2 u3 u4 u5 u6 u7 u8 : Int32} {fl fb fd : Nat → Int32} {r1 : Int32} {fr0 fr1 fr2 : Nat → Int32} {w1 w2 w3 : Int32} {fp : Nat → Int32}
/-- a fresh ball in the class -/
theorem zAg_ball (h : zAg a p1 p2 p3 p4 p5 fs fx u1 u2 u3 u4 u5 u6 u7 u8 fl fb fd r1 fr0 fr1 fr2 w1 w2 w3 fp) {f : Nat → Nat} {p2' p3' p4' p5' w1' w2' : Int32} {fs' fx' fp' : Nat → Int32} (hp1 : p1 = nI (f 2)) (hp2 : p2' = nI (f 0)) (hp3 : p3' = nI (f 1)) (hp4 : p4' = nI (f 3)) (hp5 : p5' = nI (f 4)) (A1 : ∀ j, j < 4 → fs' j = nI (f (30 + j))) (A2 : ∀ j, j < 4 → fx' j = nI (f (34 + j))) (h13 : r1 = nI (f 13)) (hk : ∀ j, 46 ≤ j → f j = a j) (hw1 : w1' = nI (f 42 + f 43 + f 44 + f 45)) (hw2 : w2' = nI (f 14)) (hw3 : w3 = nI (f 15)) (hp : ∀ j, j < 4 → fp' j = nI (f (42 + j))) :
    zAg (mBall f) p1 p2' p3' p4' p5' fs' fx' (n_X1_begin fl fb fd).1 (n_X1_begin fl fb fd).2.1 (n_X1_begin fl fb fd).2.2.1 (n_X1_begin fl fb fd).2.2.2.1 (n_X1_begin fl fb fd).2.2.2.2.1 (n_X1_begin fl fb fd).2.2.2.2.2.1 (n_X1_begin fl fb fd).2.2.2.2.2.2.1 (n_X1_begin fl fb fd).2.2.2.2.2.2.2.1 (n_X1_begin fl fb fd).2.2.2.2.2.2.2.2.1 (n_X1_begin fl fb fd).2.2.2.2.2.2.2.2.2.1 (n_X1_begin fl fb fd).2.2.2.2.2.2.2.2.2.2 r1 fr0 fr1 fr2 w1' w2' w3 fp' := by
  obtain ⟨e1, e2, e3, e4, e5, hfs, hfx, eu1, eu2, eu3, eu4, eu5, eu6, eu7, eu8, hfl, hfb, hfd, er, hR, ew1, ew2, ew3, hfp⟩ := h
  have N : ∀ j, j < 5 ∨ 13 ≤ j ∧ j < 16 ∨ 29 ≤ j → mBall f j = f j := fun j h => mBall_n h
  have B : ∀ j, 5 ≤ j ∧ j < 13 ∨ 16 ≤ j ∧ j < 23 ∨ 24 ≤ j ∧ j < 29 → mBall f j = mFresh j := fun j h => mBall_b h
  have kR := zRw_k (a' := mBall f) hR (fun j hj => by rw [N j (by omega), hk j hj])
  have b5 : mBall f 5 = 1 := B 5 (by omega)
  unfold zAg
  rw [N 0 (by omega), N 1 (by omega), N 2 (by omega), N 3 (by omega), N 4 (by omega), b5, B 6 (by omega), B 7 (by omega), B 8 (by omega), B 9 (by omega), B 10 (by omega), B 11 (by omega), B 12 (by omega), N 13 (by omega), N 14 (by omega), N 15 (by omega), N 42 (by omega), N 43 (by omega), N 44 (by omega), N 45 (by omega)]
  unfold n_X1_begin
  refine ⟨hp1, hp2, hp3, hp4, hp5, fun j hj => ?_, fun j hj => ?_, rfl, rfl, rfl, rfl, rfl, rfl, rfl, rfl, fun j hj => ?_, fun j hj => ?_, fun j hj => ?_, h13, kR, hw1, hw2, hw3, fun j hj => ?_⟩
  · rw [N _ (by omega)]; exact A1 j hj
  · rw [N _ (by omega)]; exact A2 j hj
  · rw [B _ (by omega)]
    obtain rfl | rfl | rfl | rfl : j = 0 ∨ j = 1 ∨ j = 2 ∨ j = 3 := by omega
    all_goals simp (disch := omega) only [pk_us, pk_un]
    all_goals rfl
  · rw [B _ (by omega)]
    obtain rfl | rfl | rfl : j = 0 ∨ j = 1 ∨ j = 2 := by omega
    all_goals simp (disch := omega) only [pk_us, pk_un]
    all_goals rfl
  · rw [B _ (by omega)]
    obtain rfl | rfl | rfl | rfl | rfl : j = 0 ∨ j = 1 ∨ j = 2 ∨ j = 3 ∨ j = 4 := by omega
    all_goals simp (disch := omega) only [pk_us, pk_un]
    all_goals rfl
  · rw [N _ (by omega)]; exact hp j hj
theorem f_begin (h : zAg a p1 p2 p3 p4 p5 fs fx u1 u2 u3 u4 u5 u6 u7 u8 fl fb fd r1 fr0 fr1 fr2 w1 w2 w3 fp) (hB : zBd b a) (h2 : 1 ≤ a 2) :
    (n_X6_beginGame p1 p3 fs fx fl fb fd).1 = nI (a 1 + 1) ∧ zAg (mStarts a) p1 (n_X6_beginGame p1 p3 fs fx fl fb fd).2.1 (n_X6_beginGame p1 p3 fs fx fl fb fd).2.2.1 (n_X6_beginGame p1 p3 fs fx fl fb fd).2.2.2.1 (n_X6_beginGame p1 p3 fs fx fl fb fd).2.2.2.2.1 (n_X6_beginGame p1 p3 fs fx fl fb fd).2.2.2.2.2.1 (n_X6_beginGame p1 p3 fs fx fl fb fd).2.2.2.2.2.2.1 (n_X6_beginGame p1 p3 fs fx fl fb fd).2.2.2.2.2.2.2.1 (n_X6_beginGame p1 p3 fs fx fl fb fd).2.2.2.2.2.2.2.2.1 (n_X6_beginGame p1 p3 fs fx fl fb fd).2.2.2.2.2.2.2.2.2.1 (n_X6_beginGame p1 p3 fs fx fl fb fd).2.2.2.2.2.2.2.2.2.2.1 (n_X6_beginGame p1 p3 fs fx fl fb fd).2.2.2.2.2.2.2.2.2.2.2.1 (n_X6_beginGame p1 p3 fs fx fl fb fd).2.2.2.2.2.2.2.2.2.2.2.2.1 (n_X6_beginGame p1 p3 fs fx fl fb fd).2.2.2.2.2.2.2.2.2.2.2.2.2.1 (n_X6_beginGame p1 p3 fs fx fl fb fd).2.2.2.2.2.2.2.2.2.2.2.2.2.2.1 (n_X6_beginGame p1 p3 fs fx fl fb fd).2.2.2.2.2.2.2.2.2.2.2.2.2.2.2.1 (n_X6_beginGame p1 p3 fs fx fl fb fd).2.2.2.2.2.2.2.2.2.2.2.2.2.2.2.2.1 (n_X6_beginGame p1 p3 fs fx fl fb fd).2.2.2.2.2.2.2.2.2.2.2.2.2.2.2.2.2 r1 fr0 fr1 fr2 w1 w2 w3 fp := by
  have h' := h
  obtain ⟨e1, e2, e3, e4, e5, hfs, hfx, eu1, eu2, eu3, eu4, eu5, eu6, eu7, eu8, hfl, hfb, hfd, er, hR, ew1, ew2, ew3, hfp⟩ := h
  obtain ⟨g0, g1, g2, g3, g4, g5, g6, g7, g8, g9, g10, g11, g12, g13, g14, g15, gl, gb, gd, gr, gp, gz⟩ := hB
  have e31 : p3 + 1 = nI (a 1 + 1) := by rw [e3, nI_1]
  have L : ∀ n, n < 10 → (p1 ≤ nI n ↔ a 2 ≤ n) := fun n hn => by rw [e1]; exact nI_leI (by omega) (by omega)
  have L0 : p1 ≤ 0 ↔ a 2 ≤ 0 := L 0 (by omega)
  have L1 : p1 ≤ 1 ↔ a 2 ≤ 1 := L 1 (by omega)
  have L2 : p1 ≤ 2 ↔ a 2 ≤ 2 := L 2 (by omega)
  have L3 : p1 ≤ 3 ↔ a 2 ≤ 3 := L 3 (by omega)
  have fin : ∀ fs' fx' : Nat → Int32, (∀ j, j < 4 → fs' j = 0) → (∀ j, j < 4 → fx' j = 0) → zAg (mStarts a) p1 1 (p3 + 1) 0 1 fs' fx' (n_X1_begin fl fb fd).1 (n_X1_begin fl fb fd).2.1 (n_X1_begin fl fb fd).2.2.1 (n_X1_begin fl fb fd).2.2.2.1 (n_X1_begin fl fb fd).2.2.2.2.1 (n_X1_begin fl fb fd).2.2.2.2.2.1 (n_X1_begin fl fb fd).2.2.2.2.2.2.1 (n_X1_begin fl fb fd).2.2.2.2.2.2.2.1 (n_X1_begin fl fb fd).2.2.2.2.2.2.2.2.1 (n_X1_begin fl fb fd).2.2.2.2.2.2.2.2.2.1 (n_X1_begin fl fb fd).2.2.2.2.2.2.2.2.2.2 r1 fr0 fr1 fr2 w1 w2 w3 fp := by
    intro fs' fx' hs hx
    unfold mStarts
    refine zAg_ball h' ?_ ?_ ?_ ?_ ?_ (fun j hj => ?_) (fun j hj => ?_) ?_ (fun j hj => ?_) ?_ ?_ ?_ (fun j hj => ?_)
    · simp (disch := omega) only [um_n]; exact e1
    · simp (disch := omega) only [um_n, um_s]; rfl
    · simp (disch := omega) only [um_n, um_s]; exact e31
    · simp (disch := omega) only [um_n, um_s]; rfl
    · simp (disch := omega) only [um_n, um_s]; rfl
    · rw [hs j hj]
      obtain rfl | rfl | rfl | rfl : j = 0 ∨ j = 1 ∨ j = 2 ∨ j = 3 := by omega
      all_goals simp (disch := omega) only [um_n, um_s, Nat.reduceAdd]
      all_goals rfl
    · rw [hx j hj]
      obtain rfl | rfl | rfl | rfl : j = 0 ∨ j = 1 ∨ j = 2 ∨ j = 3 := by omega
      all_goals simp (disch := omega) only [um_n, um_s, Nat.reduceAdd]
      all_goals rfl
    · simp (disch := omega) only [um_n]; exact er
    · simp (disch := omega) only [um_n]
    · simp (disch := omega) only [um_n]; exact ew1
    · simp (disch := omega) only [um_n]; exact ew2
    · simp (disch := omega) only [um_n]; exact ew3
    · simp (disch := omega) only [um_n]; exact hfp j hj
  have zs : ∀ j, j < 4 → a 2 ≤ j → fs j = 0 ∧ fx j = 0 := fun j hj h2j => by
    have := gz j hj h2j
    rw [hfs j hj, hfx j hj, this.1, this.2]; exact ⟨rfl, rfl⟩
  have up : ∀ (f : Nat → Int32) (k j : Nat), (j ≠ k → f j = 0) → upd f k 0 j = 0 := fun f k j hf => by
    by_cases e : j = k
    · rw [e, pk_us]
    · rw [pk_un e]; exact hf e
  unfold n_X6_beginGame
  have n0 : ¬ p1 ≤ 0 := fun z => by have := L0.mp z; omega
  rw [if_neg n0]
  by_cases q1 : a 2 ≤ 1
  · rw [if_pos (L1.mpr q1)]
    refine ⟨e31, fin _ _ (fun j hj => ?_) (fun j hj => ?_)⟩
    · exact up _ _ _ (fun n0 => (zs j hj (by omega)).1)
    · exact up _ _ _ (fun n0 => (zs j hj (by omega)).2)
  rw [if_neg (fun z => q1 (L1.mp z))]
  by_cases q2 : a 2 ≤ 2
  · rw [if_pos (L2.mpr q2)]
    refine ⟨e31, fin _ _ (fun j hj => ?_) (fun j hj => ?_)⟩
    · exact up _ _ _ (fun n1 => up _ _ _ (fun n0 => (zs j hj (by omega)).1))
    · exact up _ _ _ (fun n1 => up _ _ _ (fun n0 => (zs j hj (by omega)).2))
  rw [if_neg (fun z => q2 (L2.mp z))]
  by_cases q3 : a 2 ≤ 3
  · rw [if_pos (L3.mpr q3)]
    refine ⟨e31, fin _ _ (fun j hj => ?_) (fun j hj => ?_)⟩
    · exact up _ _ _ (fun n2 => up _ _ _ (fun n1 => up _ _ _ (fun n0 => (zs j hj (by omega)).1)))
    · exact up _ _ _ (fun n2 => up _ _ _ (fun n1 => up _ _ _ (fun n0 => (zs j hj (by omega)).2)))
  rw [if_neg (fun z => q3 (L3.mp z))]
  refine ⟨e31, fin _ _ (fun j hj => ?_) (fun j hj => ?_)⟩
  · exact up _ _ _ (fun n3 => up _ _ _ (fun n2 => up _ _ _ (fun n1 => up _ _ _ (fun n0 => by omega))))
  · exact up _ _ _ (fun n3 => up _ _ _ (fun n2 => up _ _ _ (fun n1 => up _ _ _ (fun n0 => by omega))))
end CLD
