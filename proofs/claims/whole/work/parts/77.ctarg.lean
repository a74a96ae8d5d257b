section CLT
variable {b : Nat} {a : Nat → Nat} {p1 p2 p3 p4 p5 : Int32} {fs fx : Nat → Int32} {u1 u2 u3 u4 u5 u6 u7 u8 : Int32} {fl fb fd : Nat → Int32} {r1 : Int32} {fr0 fr1 fr2 : Nat → Int32} {w1 w2 w3 : Int32} {fp : Nat → Int32}
theorem zAg_hit (h : zAg a p1 p2 p3 p4 p5 fs fx u1 u2 u3 u4 u5 u6 u7 u8 fl fb fd r1 fr0 fr1 fr2 w1 w2 w3 fp) {a' : Nat → Nat} (K : ∀ j, j < 5 ∨ 12 ≤ j ∧ j < 16 ∨ 46 ≤ j → a' j = a j) (k9 : a' 9 = a 9) (k11 : a' 11 = a 11) {fs' fx' fl' fb' fd' fp' : Nat → Int32} {u1' u2' u3' u4' u6' w1' : Int32} (A1 : ∀ j, j < 4 → fs' j = nI (a' (30 + j))) (A2 : ∀ j, j < 4 → fx' j = nI (a' (34 + j))) (h1 : u1' = nI (if a' 5 = 0 then 1 else a' 5)) (h2 : u2' = nI (a' 6)) (h3 : u3' = nI (a' 7)) (h4 : u4' = nI (a' 8)) (h6 : u6' = nI (a' 10)) (hl : ∀ j, j < 4 → fl' j = nI (a' (16 + j))) (hb : ∀ j, j < 3 → fb' j = nI (a' (20 + j))) (hd : ∀ j, j < 5 → fd' j = nI (a' (24 + j))) (hw : w1' = nI (a' 42 + a' 43 + a' 44 + a' 45)) (hp : ∀ j, j < 4 → fp' j = nI (a' (42 + j))) :
    zAg a' p1 p2 p3 p4 p5 fs' fx' u1' u2' u3' u4' u5 u6' u7 u8 fl' fb' fd' r1 fr0 fr1 fr2 w1' w2 w3 fp' := by
  obtain ⟨e1, e2, e3, e4, e5, hfs, hfx, eu1, eu2, eu3, eu4, eu5, eu6, eu7, eu8, hfl, hfb, hfd, er, hR, ew1, ew2, ew3, hfp⟩ := h
  have kR := zRw_k hR (fun j hj => K j (by omega))
  unfold zAg
  rw [K 0 (by omega), K 1 (by omega), K 2 (by omega), K 3 (by omega), K 4 (by omega), k9, k11, K 12 (by omega), K 13 (by omega), K 14 (by omega), K 15 (by omega)]
  exact ⟨e1, e2, e3, e4, e5, A1, A2, h1, h2, h3, h4, eu5, h6, eu7, eu8, hl, hb, hd, er, kR, hw, ew2, ew3, hp⟩
theorem mExtra_at {f : Nat → Nat} {c j : Nat} : mExtra f c j = if j = 34 + c then (if 3 ≤ f j then f j else f j + 1) else f j := by
  unfold mExtra um
  by_cases e : j = 34 + c
  · subst e; rfl
  · rw [if_neg e, if_neg e]
theorem f_extra {x : Nat} (hx : x ≤ 3) : (if 3 < nI x + 1 then (3 : Int32) else nI x + 1) = nI (if 3 ≤ x then x else x + 1) := by
  rw [nI_1, lI3]
  by_cases q : 3 ≤ x
  · rw [if_pos q, if_pos ((nI_ltI (by omega) (by omega)).mpr (by omega))]
    congr 1; omega
  · rw [if_neg q, if_neg (fun z => by have := (nI_ltI (by omega) (by omega)).mp z; omega)]
theorem f_targ (h : zAg a p1 p2 p3 p4 p5 fs fx u1 u2 u3 u4 u5 u6 u7 u8 fl fb fd r1 fr0 fr1 fr2 w1 w2 w3 fp) (hB : zBd b a) (hr : a 0 = 1) {i : Nat} (hi : i < 5) :
    (n_X6_playTarget p4 fs fx u1 u2 u3 u4 u6 u7 fd w1 fp i).1 = nI (mTarg a i).1 ∧ zAg (mTarg a i).2 p1 p2 p3 p4 p5 (n_X6_playTarget p4 fs fx u1 u2 u3 u4 u6 u7 fd w1 fp i).2.1 (n_X6_playTarget p4 fs fx u1 u2 u3 u4 u6 u7 fd w1 fp i).2.2.1 u1 (n_X6_playTarget p4 fs fx u1 u2 u3 u4 u6 u7 fd w1 fp i).2.2.2.1 (n_X6_playTarget p4 fs fx u1 u2 u3 u4 u6 u7 fd w1 fp i).2.2.2.2.1 (n_X6_playTarget p4 fs fx u1 u2 u3 u4 u6 u7 fd w1 fp i).2.2.2.2.2.1 u5 (n_X6_playTarget p4 fs fx u1 u2 u3 u4 u6 u7 fd w1 fp i).2.2.2.2.2.2.1 u7 u8 fl fb (n_X6_playTarget p4 fs fx u1 u2 u3 u4 u6 u7 fd w1 fp i).2.2.2.2.2.2.2.1 r1 fr0 fr1 fr2 (n_X6_playTarget p4 fs fx u1 u2 u3 u4 u6 u7 fd w1 fp i).2.2.2.2.2.2.2.2.1 w2 w3 (n_X6_playTarget p4 fs fx u1 u2 u3 u4 u6 u7 fd w1 fp i).2.2.2.2.2.2.2.2.2 := by
  have h' := h
  have hB' := hB
  obtain ⟨e1, e2, e3, e4, e5, hfs, hfx, eu1, eu2, eu3, eu4, eu5, eu6, eu7, eu8, hfl, hfb, hfd, er, hR, ew1, ew2, ew3, hfp⟩ := h
  obtain ⟨g0, g1, g2, g3, g4, g5, g6, g7, g8, g9, g10, g11, g12, g13, g14, g15, gl, gb, gd, gr, gp, gz⟩ := hB
  obtain ⟨r1', r2', r3', r4', r5', r6'⟩ := gr hr
  have K : ∀ j, j < 5 ∨ 12 ≤ j ∧ j < 16 ∨ 46 ≤ j → (mTarg a i).2 j = a j := fun j hj => mTarg_k g4 hi hj
  have eu1' : u1 = nI (a 5) := by rw [eu1, if_neg (by omega)]
  by_cases ht : a 11 = 1
  · have eM : mTarg a i = (0, um a 10 (a 10 + 1)) := by unfold mTarg; rw [if_pos ht]
    have eC : n_X1_strikeTarget u1 u2 u3 u4 u6 u7 fd i = (0, u2, u3, nI (a 8), nI (a 10 + 1), fd) := by
      unfold n_X1_strikeTarget
      rw [eu4, eu6, eu7, c_count (by omega) g11, if_pos ht, if_neg (by rw [ht]; decide)]
    obtain ⟨A1, A2, A3, A4⟩ := f_award h' hB' 2 0 (by omega) (by omega) a (fun _ _ _ => rfl) rfl
    have z := mScores_0 (a := a) (k := 2) (by omega) g4 (gp (a 3) (by omega)).2.2.2
    have U : ∀ j, j ≠ 10 → um a 10 (a 10 + 1) j = a j := fun j hj => um_n hj
    have hle : u2 ≤ u2 := by rw [eu2]; exact (nI_leI (by omega) (by omega)).mpr (Nat.le_refl _)
    rw [eM] at K
    dsimp only at K
    unfold n_X6_playTarget
    rw [eC, eM]
    dsimp only
    rw [if_pos hle, lI0]
    try dsimp only
    refine ⟨rfl, zAg_hit h' K (U 9 (by omega)) (U 11 (by omega)) (fun j hj => ?_) (fun j hj => ?_) ?_ ?_ ?_ ?_ ?_ (fun j hj => ?_) (fun j hj => ?_) (fun j hj => ?_) ?_ (fun j hj => ?_)⟩
    · rw [A1 j hj, (z j hj).1, U _ (by omega)]
    · rw [A2 j hj, (z j hj).2.1, U _ (by omega)]
    · simp (disch := omega) only [um_n]; exact eu1
    · rw [U _ (by omega)]; exact eu2
    · rw [U _ (by omega)]; exact eu3
    · rw [U _ (by omega)]
    · rw [um_s]
    · rw [U _ (by omega)]; exact hfl j hj
    · rw [U _ (by omega)]; exact hfb j hj
    · rw [U _ (by omega)]; exact hfd j hj
    · have W := mS_W (a := a) (k := 2) (y := 0) (by omega) g4
      rw [A3, W, U _ (by omega), U _ (by omega), U _ (by omega), U _ (by omega)]; rfl
    · rw [A4 j hj, (z j hj).2.2, U _ (by omega)]
  · have e11 : a 11 = 0 := by omega
    have di := gd i hi
    have fi := hfd i hi
    have h0 : nI (a 11) = 0 := by rw [e11]; rfl
    have f3 : mCounts a 3 = a 3 := mCounts_k (by omega)
    by_cases q : a (24 + i) = 1
    · have eM : mTarg a i = (20 * a 5, mScores (mCounts a) 2 (20 * a 5)) := by unfold mTarg; rw [if_neg ht, if_pos q]
      have q0 : ¬ fd i = 0 := by rw [fi, q]; decide
      have ey : (20 : Int32) * u1 = nI (20 * a 5) := by rw [eu1', lI20, pk_mul]
      have eC : n_X1_strikeTarget u1 u2 u3 u4 u6 u7 fd i = (nI (20 * a 5), u2, u3, nI (a 8 - 1), nI (a 10 + 1), fd) := by
        unfold n_X1_strikeTarget
        rw [eu4, eu6, eu7, c_count (by omega) g11, if_neg ht, if_pos h0, if_neg q0, ey]
      have hy : 20 * a 5 ≤ 1200 := by omega
      generalize 20 * a 5 = y at *
      obtain ⟨A1, A2, A3, A4⟩ := f_award h' hB' 2 y (by omega) (by omega) (mCounts a) (fun j h1 h2 => mCounts_k (by omega)) f3
      generalize hS : mScores (mCounts a) 2 y = S at *
      have SK : ∀ j, j < 30 ∧ j ≠ 8 ∧ j ≠ 10 ∨ 46 ≤ j → S j = a j := fun j hj => by rw [← hS]; exact mCS_k (by omega) g4 hj
      have S8 : S 8 = a 8 - 1 := by rw [← hS]; exact mCS_8 (by omega) g4
      have S10 : S 10 = a 10 + 1 := by rw [← hS]; exact mCS_10 (by omega) g4
      have hle : u2 ≤ u2 := by rw [eu2]; exact (nI_leI (by omega) (by omega)).mpr (Nat.le_refl _)
      rw [eM] at K
      dsimp only at K
      unfold n_X6_playTarget
      rw [eC, eM]
      dsimp only
      rw [if_pos hle]
      try dsimp only
      refine ⟨rfl, zAg_hit h' K (SK 9 (by omega)) (SK 11 (by omega)) A1 A2 ?_ ?_ ?_ ?_ ?_ (fun j hj => ?_) (fun j hj => ?_) (fun j hj => ?_) A3 A4⟩
      · rw [SK 5 (by omega)]; exact eu1
      · rw [SK _ (by omega)]; exact eu2
      · rw [SK _ (by omega)]; exact eu3
      · rw [S8]
      · rw [S10]
      · rw [SK _ (by omega)]; exact hfl j hj
      · rw [SK _ (by omega)]; exact hfb j hj
      · rw [SK _ (by omega)]; exact hfd j hj
    · have eM : mTarg a i = (200 * a 5, mFullT (um (um (mScores (mCounts a) 2 (200 * a 5)) 7 (a 7 + 1)) (24 + i) 1)) := by unfold mTarg; rw [if_neg ht, if_neg q]
      have q0 : fd i = 0 := by rw [fi, show a (24 + i) = 0 from by omega]; rfl
      have ey : (200 : Int32) * u1 = nI (200 * a 5) := by rw [eu1', lI200, pk_mul]
      have e7 : u3 + 1 = nI (a 7 + 1) := by rw [eu3, nI_1]
      have e73 : nI (a 7 + 1) + 3 = nI (a 7 + 1 + 3) := nI_add _ 3
      have e6 : u2 + 1 = nI (a 6 + 1) := by rw [eu2, nI_1]
      have eC : n_X1_strikeTarget u1 u2 u3 u4 u6 u7 fd i = (if n_X8_allTrue5 (upd fd i 1) = 0 then (nI (200 * a 5), u2, nI (a 7 + 1), nI (a 8 - 1), nI (a 10 + 1), upd fd i 1) else (nI (200 * a 5), nI (a 6 + 1), nI (a 7 + 1 + 3), nI (a 8 - 1), nI (a 10 + 1), upd (upd (upd (upd (upd (upd fd i 1) 0 0) 1 0) 2 0) 3 0) 4 0)) := by
        unfold n_X1_strikeTarget
        rw [eu4, eu6, eu7, c_count (by omega) g11, if_neg ht, if_pos h0, if_pos q0, ey, e7, e73, e6]
      have hy : 200 * a 5 ≤ 1200 := by omega
      generalize 200 * a 5 = y at *
      obtain ⟨A1, A2, A3, A4⟩ := f_award h' hB' 2 y (by omega) (by omega) (mCounts a) (fun j h1 h2 => mCounts_k (by omega)) f3
      have S34 : ∀ c, c < 4 → mScores (mCounts a) 2 y (34 + c) = if c = a 3 ∧ 5000 ≤ a (30 + c) + y ∧ a (38 + c) = 0 then (if 3 ≤ a (34 + c) then a (34 + c) else a (34 + c) + 1) else a (34 + c) := fun c hc => by
        rw [mScores_34 (by omega) (by omega) (by omega), f3]
        simp (disch := omega) only [mCounts_k]
      have S30 : ∀ c, c < 4 → mScores (mCounts a) 2 y (30 + c) = if c = a 3 then a (30 + c) + y else a (30 + c) := fun c hc => by
        rw [mScores_30 (by omega) (by omega) (by omega), f3]
        simp (disch := omega) only [mCounts_k]
      have S42 : ∀ c, c < 4 → mScores (mCounts a) 2 y (42 + c) = if c = 2 then a (42 + c) + y else a (42 + c) := fun c hc => by
        rw [mScores_42 (by omega) (by omega) (by omega)]
        simp (disch := omega) only [mCounts_k]
      generalize hS : mScores (mCounts a) 2 y = S at *
      have SK : ∀ j, j < 30 ∧ j ≠ 8 ∧ j ≠ 10 ∨ 46 ≤ j → S j = a j := fun j hj => by rw [← hS]; exact mCS_k (by omega) g4 hj
      have S8 : S 8 = a 8 - 1 := by rw [← hS]; exact mCS_8 (by omega) g4
      have S10 : S 10 = a 10 + 1 := by rw [← hS]; exact mCS_10 (by omega) g4
      have FL : ∀ j, j < 5 → upd fd i 1 j = nI (um (um S 7 (a 7 + 1)) (24 + i) 1 (24 + j)) := by
        intro j hj
        by_cases e : j = i
        · subst e; rw [pk_us, um_s]; rfl
        · rw [pk_un e, um_n (by omega), um_n (by omega), SK _ (by omega)]; exact hfd j hj
      have FB : ∀ j, j < 5 → um (um S 7 (a 7 + 1)) (24 + i) 1 (24 + j) ≤ 1 := by
        intro j hj
        by_cases e : j = i
        · subst e; rw [um_s]; omega
        · rw [um_n (by omega), um_n (by omega), SK _ (by omega)]; exact gd j hj
      have C5 := c_all5 FL FB
      have T3 : um (um S 7 (a 7 + 1)) (24 + i) 1 3 ≤ 3 := by rw [um_n (by omega), um_n (by omega), SK 3 (by omega)]; exact g4
      have FN : ∀ j, j ≠ 6 ∧ j ≠ 7 ∧ ¬ (24 ≤ j ∧ j ≤ 28) ∧ ¬ (34 ≤ j ∧ j ≤ 37) → mFullT (um (um S 7 (a 7 + 1)) (24 + i) 1) j = S j := fun j hj => by
        rw [mFullT_n T3 hj, um_n (by omega), um_n (by omega)]
      rw [eM] at K
      dsimp only at K
      unfold n_X6_playTarget
      rw [eC, eM]
      rcases C5 with ⟨c1, c2⟩ | ⟨c1, c2⟩
      · have hle : u2 ≤ u2 := by rw [eu2]; exact (nI_leI (by omega) (by omega)).mpr (Nat.le_refl _)
        simp only [if_pos c1, if_pos hle]
        try dsimp only
        refine ⟨trivial, zAg_hit h' K (by rw [FN 9 (by omega), SK 9 (by omega)]) (by rw [FN 11 (by omega), SK 11 (by omega)]) (fun j hj => ?_) (fun j hj => ?_) ?_ ?_ ?_ ?_ ?_ (fun j hj => ?_) (fun j hj => ?_) (fun j hj => ?_) ?_ (fun j hj => ?_)⟩
        · rw [FN _ (by omega)]; exact A1 j hj
        · rw [c2, um_n (by omega), um_n (by omega)]; exact A2 j hj
        · have e5' : mFullT (um (um S 7 (a 7 + 1)) (24 + i) 1) 5 = a 5 := by rw [FN 5 (by omega), SK 5 (by omega)]
          simp only [e5']; exact eu1
        · rw [c2, um_n (by omega), um_n (by omega), SK _ (by omega)]; exact eu2
        · rw [c2, um_n (by omega), um_s]
        · rw [FN _ (by omega), S8]
        · rw [FN _ (by omega), S10]
        · rw [FN _ (by omega), SK _ (by omega)]; exact hfl j hj
        · rw [FN _ (by omega), SK _ (by omega)]; exact hfb j hj
        · rw [c2]; exact FL j hj
        · rw [FN 42 (by omega), FN 43 (by omega), FN 44 (by omega), FN 45 (by omega)]; exact A3
        · rw [FN _ (by omega)]; exact A4 j hj
      · have c1' : ¬ n_X8_allTrue5 (upd fd i 1) = 0 := by rw [c1]; decide
        have hle : ¬ nI (a 6 + 1) ≤ u2 := by rw [eu2]; exact fun z => by have := (nI_leI (by omega) (by omega)).mp z; omega
        have N3 : um (um (um (um (um (um (um S 7 (a 7 + 1)) (24 + i) 1) 24 0) 25 0) 26 0) 27 0) 28 0 3 = a 3 := by simp (disch := omega) only [um_n, SK]
        have N6 : um (um (um (um (um (um (um S 7 (a 7 + 1)) (24 + i) 1) 24 0) 25 0) 26 0) 27 0) 28 0 6 = a 6 := by simp (disch := omega) only [um_n, SK]
        have N7 : um (um (um (um (um (um (um S 7 (a 7 + 1)) (24 + i) 1) 24 0) 25 0) 26 0) 27 0) 28 0 7 = a 7 + 1 := by simp (disch := omega) only [um_n, um_s]
        have T6 : mFullT (um (um S 7 (a 7 + 1)) (24 + i) 1) 6 = a 6 + 1 := by rw [c2, mBank_6 (by omega), N6]
        have T7 : mFullT (um (um S 7 (a 7 + 1)) (24 + i) 1) 7 = a 7 + 1 + 3 := by rw [c2, mBank_7 (by omega), N7]
        have T34 : ∀ c, c < 4 → mFullT (um (um S 7 (a 7 + 1)) (24 + i) 1) (34 + c) = if a 6 + 1 = 2 ∧ c = a 3 then (if 3 ≤ S (34 + c) then S (34 + c) else S (34 + c) + 1) else S (34 + c) := fun c hc => by
          rw [c2, mBank_34 (by omega) hc, N6, N3]
          simp (disch := omega) only [um_n]
        have FD : ∀ j, j < 5 → upd (upd (upd (upd (upd (upd fd i 1) 0 0) 1 0) 2 0) 3 0) 4 0 j = nI (mFullT (um (um S 7 (a 7 + 1)) (24 + i) 1) (24 + j)) := fun j hj => by
          rw [c2, mBank_n (by omega) (by omega)]
          obtain rfl | rfl | rfl | rfl | rfl : j = 0 ∨ j = 1 ∨ j = 2 ∨ j = 3 ∨ j = 4 := by omega
          all_goals simp (disch := omega) only [pk_us, pk_un, um_n, um_s, Nat.reduceAdd]
          all_goals rfl
        have e5' : mFullT (um (um S 7 (a 7 + 1)) (24 + i) 1) 5 = a 5 := by rw [FN 5 (by omega), SK 5 (by omega)]
        simp only [if_neg c1', if_neg hle]
        by_cases q2 : a 6 + 1 = 2
        · have q2' : nI (a 6 + 1) = 2 := by rw [q2]; rfl
          simp only [if_pos q2']
          have p3b := (gp (a 3) (by omega)).2.2.1
          have Z3 : zn p4 = a 3 := by rw [e4]; exact zn_I (by omega)
          have hx' : ∀ j, j < 4 → n_X6_gainExtraBall p4 fx j = nI (mExtra a (a 3) (34 + j)) := fun j hj => by
            unfold n_X6_gainExtraBall
            rw [Z3, mExtra_at, hfx (a 3) (by omega), f_extra p3b]
            by_cases e : j = a 3
            · subst e; rw [pk_us, if_pos rfl]
            · rw [pk_un e, if_neg (by omega)]; exact hfx j hj
          have M : ∀ j, ¬ (34 ≤ j ∧ j ≤ 37) → mExtra a (a 3) j = a j := fun j hj => by rw [mExtra_at, if_neg (by omega)]
          obtain ⟨A1, A2, A3, A4⟩ := e_award (a := mExtra a (a 3)) (k := 2) (y := y) (a 42 + a 43 + a 44 + a 45) (by omega) (by rw [M 3 (by omega)]; exact g4) (by rw [M 3 (by omega), M _ (by omega)]; have := gp (a 3) (by omega); omega) (by
              rw [M 3 (by omega), mExtra_at, if_pos rfl]
              split
              all_goals omega) (by rw [M 3 (by omega), M _ (by omega), M _ (by omega)]; exact (gp (a 3) (by omega)).2.2.2) fs (n_X6_gainExtraBall p4 fx) fp (fun j hj => by rw [M _ (by omega)]; exact hfs j hj) hx' (fun j hj => by rw [M _ (by omega)]; exact hfp j hj)
          have m3 : mExtra a (a 3) 3 = a 3 := M 3 (by omega)
          rw [m3] at A1 A2 A3 A4
          have ep4 := e4
          rw [ep4] at hx' ⊢
          rw [ew1]
          rw [ep4] at A1 A2 A3 A4
          try dsimp only
          refine ⟨trivial, zAg_hit (ep4 ▸ h') K (by rw [FN 9 (by omega), SK 9 (by omega)]) (by rw [FN 11 (by omega), SK 11 (by omega)]) (fun j hj => ?_) (fun j hj => ?_) ?_ ?_ ?_ ?_ ?_ (fun j hj => ?_) (fun j hj => ?_) FD ?_ (fun j hj => ?_)⟩
          · rw [A1 j hj, FN _ (by omega), S30 j hj, mScores_30 (by omega) (by omega) (by omega), m3, M _ (by omega)]
          · rw [A2 j hj, T34 j hj, S34 j hj, mScores_34 (by omega) (by omega) (by omega), m3, M (30 + j) (by omega), M (38 + j) (by omega), mExtra_at]
            congr 1
            by_cases e : j = a 3
            · subst e
              have := gp (a 3) (by omega)
              simp only [q2, true_and, if_true]
              repeat' split
              all_goals omega
            · simp only [e, and_false, false_and, if_false]
              rw [if_neg (by omega)]
          · simp only [e5']; exact eu1
          · rw [T6]
          · rw [T7]
          · rw [FN _ (by omega), S8]
          · rw [FN _ (by omega), S10]
          · rw [FN _ (by omega), SK _ (by omega)]; exact hfl j hj
          · rw [FN _ (by omega), SK _ (by omega)]; exact hfb j hj
          · have W := mS_W (a := a) (k := 2) (y := y) (by omega) g4
            rw [A3, FN 42 (by omega), FN 43 (by omega), FN 44 (by omega), FN 45 (by omega)]
            have s0 := S42 0 (by omega)
            have s1 := S42 1 (by omega)
            have s2 := S42 2 (by omega)
            have s3 := S42 3 (by omega)
            simp only [Nat.reduceAdd] at s0 s1 s2 s3
            rw [s0, s1, s2, s3]
            congr 1
            simp
            omega
          · rw [A4 j hj, FN _ (by omega), S42 j hj, mScores_42 (by omega) (by omega) (by omega), M _ (by omega)]
        · have q2' : ¬ nI (a 6 + 1) = 2 := by rw [lI2]; exact fun z => q2 ((nI_eq (by omega) (by omega)).mp z)
          simp only [if_neg q2']
          try dsimp only
          refine ⟨trivial, zAg_hit h' K (by rw [FN 9 (by omega), SK 9 (by omega)]) (by rw [FN 11 (by omega), SK 11 (by omega)]) (fun j hj => ?_) (fun j hj => ?_) ?_ ?_ ?_ ?_ ?_ (fun j hj => ?_) (fun j hj => ?_) FD ?_ (fun j hj => ?_)⟩
          · rw [FN _ (by omega)]; exact A1 j hj
          · rw [T34 j hj, if_neg (fun z => q2 z.1)]; exact A2 j hj
          · simp only [e5']; exact eu1
          · rw [T6]
          · rw [T7]
          · rw [FN _ (by omega), S8]
          · rw [FN _ (by omega), S10]
          · rw [FN _ (by omega), SK _ (by omega)]; exact hfl j hj
          · rw [FN _ (by omega), SK _ (by omega)]; exact hfb j hj
          · rw [FN 42 (by omega), FN 43 (by omega), FN 44 (by omega), FN 45 (by omega)]; exact A3
          · rw [FN _ (by omega)]; exact A4 j hj
end CLT
