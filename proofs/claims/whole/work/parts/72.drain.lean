def mFin : Nat → (Nat → Nat) → Nat → Nat → Nat
  | 0, a, _ => a
  | n + 1, a, k => if a 2 ≤ k then a else mFin n (mEnter a k) (k + 1)
def mFollow (a : Nat → Nat) : Nat → Nat :=
  if a (34 + a 3) = 0 then
    (if a 3 + 1 = a 2 then (if a 4 = 3 then mFin 5 (um a 0 0) 0 else mBall (um (um a 4 (a 4 + 1)) 3 0)) else mBall (um a 3 (a 3 + 1)))
  else mBall (um a (34 + a 3) (a (34 + a 3) - 1))
def mDrain (a : Nat → Nat) : Nat × (Nat → Nat) :=
  if a 11 = 0 ∧ a 10 ≤ 3 ∧ a 12 = 0 then (0, um a 12 1)
  else if a 11 = 1 then (0, mFollow (um a 14 (a 14 + 1)))
  else (100 * a 7 * a 5, mFollow (mScores (um a 14 (a 14 + 1)) 3 (100 * a 7 * a 5)))
theorem mFin_k {j : Nat} (hj : j < 46 ∧ j ≠ 13) : ∀ (n : Nat) (a : Nat → Nat) (k : Nat), a 13 ≤ 5 → mFin n a k j = a j
  | 0, a, k, _ => rfl
  | n + 1, a, k, h => by
    unfold mFin
    split
    · rfl
    · rw [mFin_k hj n _ (k + 1) (mEnter_13 h), mEnter_k h hj]
theorem mFin_13 : ∀ (n : Nat) (a : Nat → Nat) (k : Nat), a 13 ≤ 5 → mFin n a k 13 ≤ 5
  | 0, a, k, h => h
  | n + 1, a, k, h => by
    unfold mFin
    split
    · exact h
    · exact mFin_13 n _ (k + 1) (mEnter_13 h)
theorem mFin_R {b : Nat} (hb : b ≤ 20000) : ∀ (n : Nat) (a : Nat → Nat) (k : Nat), a 13 ≤ 5 → a 2 ≤ 4 → (∀ c, c < 4 → a (30 + c) ≤ 4000 * b) → zRk b a k → k ≤ 4 → a 2 < n + k → n_X9_follows_L1 n (zF a) k = zF (mFin n a k) ∧ zRk b (mFin n a k) 4
  | 0, a, k, _, h2, hs, hR, hk, hn => by
    refine ⟨rfl, ?_⟩
    unfold mFin
    exact ⟨fun i hi => by have := hR.1 i hi; omega, hR.2⟩
  | n + 1, a, k, h13, h2, hs, hR, hk, hn => by
    unfold n_X9_follows_L1 mFin
    by_cases e : a 2 ≤ k
    · have c2 : zF a 2 ≤ nI k := (nI_leI (by omega) (by omega)).mpr e
      rw [if_pos e, if_pos c2]
      exact ⟨rfl, fun i hi => by have := hR.1 i hi; omega, hR.2⟩
    · have c2 : ¬ zF a 2 ≤ nI k := fun q => e ((nI_leI (by omega) (by omega)).mp q)
      rw [if_neg e, if_neg c2]
      have hsk := hs k (by omega)
      rw [e_enter h13 (by omega) (by omega) (fun i hi => by have := hR.1 i hi; omega)]
      refine mFin_R hb n _ (k + 1) (mEnter_13 h13) (by rw [mEnter_k h13 (by omega)]; exact h2) (fun c hc => by rw [mEnter_k h13 (by omega)]; exact hs c hc) (mEnter_R h13 (hs k (by omega)) (by omega) hR) (by omega) (by rw [mEnter_k h13 (by omega)]; omega)
/-- what a drain needs of the state before the next ball -/
def zPd (b : Nat) (a : Nat → Nat) : Prop :=
  a 0 = 1 ∧ a 1 ≤ b ∧ 1 ≤ a 2 ∧ a 2 ≤ 4 ∧ a 3 < a 2 ∧ 1 ≤ a 4 ∧ a 4 ≤ 3 ∧ a 13 ≤ 5 ∧ a 14 ≤ b ∧ a 15 ≤ b ∧
  (∀ c, c < 4 → a (30 + c) ≤ 4000 * b ∧ a (34 + c) ≤ 3 ∧ (5000 ≤ a (30 + c) ∧ a (38 + c) = 1 ∨ a (30 + c) < 5000 ∧ a (38 + c) = 0)) ∧ (∀ c, c < 4 → a 2 ≤ c → a (30 + c) = 0 ∧ a (34 + c) = 0)
theorem zBr_k {b : Nat} {a a' : Nat → Nat} (h : zBr b a) (h13 : a' 13 = a 13) (h0 : a' 0 + a 1 ≤ a 0 + a' 1) (hr : ∀ j, 46 ≤ j → a' j = a j) : zBr b a' := by
  obtain ⟨r1, r2⟩ := h
  refine ⟨fun i hi => ?_, fun i hi => ?_⟩
  · rw [hr _ (by omega), hr _ (by omega), hr _ (by omega)]
    have := r1 i (by omega)
    omega
  · have := r2 i (by omega)
    unfold zBe at *
    rw [hr _ (by omega), hr _ (by omega), hr _ (by omega), hr _ (by omega), hr _ (by omega), hr _ (by omega)]
    exact this
theorem zBr_up {b b' : Nat} {a : Nat → Nat} (h : zBr b a) (hb : b ≤ b') : zBr b' a := ⟨fun i hi => by have := h.1 i hi; omega, h.2⟩
theorem in_follow {b : Nat} {a : Nat → Nat} (hb : b ≤ 20000) (h : zPd b a) (hr : zBr b a) (g5 : a 5 ≤ 6) (g6 : a 6 ≤ b) (g8 : a 8 ≤ 4) (g9 : a 9 ≤ 3) (g10 : a 10 ≤ b) (g11 : a 11 ≤ 1) (g12 : a 12 ≤ 1) (gl : ∀ i, i < 4 → a (16 + i) ≤ 1) (gb : ∀ i, i < 3 → a (20 + i) ≤ 200 ∧ a (20 + i) % 10 = 0) (gd : ∀ i, i < 5 → a (24 + i) ≤ 1) : zInv b (mFollow a) ∧ n_X9_follows (zF a) = zF (mFollow a) := by
  obtain ⟨h0, h1, h2, h2', h3, h4, h4', h13, h14, h15, hp, hz⟩ := h
  have p3 := (hp (a 3) (by omega)).2.1
  have Z3 : zn (zF a 3) = a 3 := zn_I (by omega)
  have Z2 : zn (zF a 2) = a 2 := zn_I (by omega)
  unfold n_X9_follows mFollow
  rw [Z3, Z2]
  by_cases q : a (34 + a 3) = 0
  · have c1 : zF a (34 + a 3) ≤ 0 := by rw [zF_at, q]; decide
    rw [if_pos q, if_pos c1]
    by_cases ql : a 3 + 1 = a 2
    · have c2 : zF a 3 = nI (a 2 - 1) := by rw [zF_at]; congr 1; omega
      rw [if_pos ql, if_pos c2]
      by_cases q4 : a 4 = 3
      · have c3 : zF a 4 = 3 := by rw [zF_at, q4]; rfl
        rw [if_pos q4, if_pos c3, lI0, zF_up]
        have U : ∀ j, j ≠ 0 → um a 0 0 j = a j := fun j hj => um_n hj
        have hR0 : zRk b (um a 0 0) 0 := by
          refine ⟨fun i hi => ?_, fun i hi => ?_⟩
          · rw [U 13 (by omega)] at hi
            rw [U _ (by omega), U _ (by omega), U _ (by omega), U 1 (by omega)]
            have := hr.1 i hi
            rw [show 47 + 3 * i = 46 + 3 * i + 1 from by omega, show 48 + 3 * i = 46 + 3 * i + 2 from by omega] at this
            omega
          · rw [U 13 (by omega)] at hi
            rw [U _ (by omega), U _ (by omega), U _ (by omega), U _ (by omega), U _ (by omega), U _ (by omega)]
            have := hr.2 i hi
            unfold zBe at this
            rw [show 47 + 3 * i = 46 + 3 * i + 1 from by omega, show 48 + 3 * i = 46 + 3 * i + 2 from by omega, show 47 + 3 * (i + 1) = 46 + 3 * (i + 1) + 1 from by omega, show 48 + 3 * (i + 1) = 46 + 3 * (i + 1) + 2 from by omega] at this
            exact this
        obtain ⟨m1, m2⟩ := mFin_R hb 5 (um a 0 0) 0 h13 h2' (fun c hc => by rw [U _ (by omega)]; exact (hp c hc).1) hR0 (by omega) (by rw [U 2 (by omega)]; omega)
        refine ⟨?_, m1⟩
        have K : ∀ j, j < 46 → j ≠ 13 → j ≠ 0 → mFin 5 (um a 0 0) 0 j = a j := fun j h1 h2 h3 => by
          rw [mFin_k ⟨h1, h2⟩ 5 (um a 0 0) 0 h13, U j h3]
        have K0 : mFin 5 (um a 0 0) 0 0 = 0 := by rw [mFin_k ⟨by omega, by omega⟩ 5 (um a 0 0) 0 h13, um_s]
        have K13 := mFin_13 5 (um a 0 0) 0 h13
        have K1 := K 1 (by omega) (by omega) (by omega)
        constructor
        · unfold zBd
          rw [K0, K1, K 2 (by omega) (by omega) (by omega), K 3 (by omega) (by omega) (by omega), K 4 (by omega) (by omega) (by omega), K 5 (by omega) (by omega) (by omega), K 6 (by omega) (by omega) (by omega), K 8 (by omega) (by omega) (by omega), K 9 (by omega) (by omega) (by omega), K 10 (by omega) (by omega) (by omega), K 11 (by omega) (by omega) (by omega), K 12 (by omega) (by omega) (by omega), K 14 (by omega) (by omega) (by omega), K 15 (by omega) (by omega) (by omega)]
          refine ⟨hb, by omega, h1, h2', by omega, h4', g5, g6, g8, g9, g10, g11, g12, K13, h14, h15, fun i hi => ?_, fun i hi => ?_, fun i hi => ?_, fun z => by omega, fun c hc => ?_, fun c hc h2c => by rw [K _ (by omega) (by omega) (by omega), K _ (by omega) (by omega) (by omega)]; exact hz c hc h2c⟩
          · rw [K _ (by omega) (by omega) (by omega)]; exact gl i hi
          · rw [K _ (by omega) (by omega) (by omega)]; exact gb i hi
          · rw [K _ (by omega) (by omega) (by omega)]; exact gd i hi
          · rw [K _ (by omega) (by omega) (by omega), K (34 + c) (by omega) (by omega) (by omega), K (38 + c) (by omega) (by omega) (by omega)]
            have := hp c hc
            exact ⟨this.1, fun z => by omega, this.2⟩
        · have e1 : mFin 5 (um a 0 0) 0 1 = a 1 := K1
          refine ⟨fun i hi => ?_, fun i hi => ?_⟩
          · have := m2.1 i hi
            rw [show 47 + 3 * i = 46 + 3 * i + 1 from by omega, show 48 + 3 * i = 46 + 3 * i + 2 from by omega]
            omega
          · have := m2.2 i hi
            unfold zBe
            rw [show 47 + 3 * i = 46 + 3 * i + 1 from by omega, show 48 + 3 * i = 46 + 3 * i + 2 from by omega, show 47 + 3 * (i + 1) = 46 + 3 * (i + 1) + 1 from by omega, show 48 + 3 * (i + 1) = 46 + 3 * (i + 1) + 2 from by omega]
            exact this
      · have c3 : ¬ zF a 4 = 3 := by rw [zF_at, lI3]; exact fun z => q4 ((nI_eq (by omega) (by omega)).mp z)
        rw [if_neg q4, if_neg c3]
        have e4 : zF a 4 + 1 = nI (a 4 + 1) := nI_1 _
        dsimp only
        rw [e4, lI0, zF_up, zF_up, e_ball]
        refine ⟨⟨bd_ball hb ?_ ?_ ?_ ?_ ?_ ?_ ?_ ?_ (fun c hc => ?_) (fun c hc h2c => ?_), zBr_k hr ?_ ?_ (fun j hj => ?_)⟩, rfl⟩
        all_goals (try rw [mBall_n (by omega)])
        all_goals (try rw [mBall_n (by omega)])
        all_goals (try rw [mBall_n (by omega)])
        all_goals (try simp (disch := omega) only [um_n, um_s])
        all_goals (try omega)
        · exact hp c hc
        · exact hz c hc h2c
    · have c2 : ¬ zF a 3 = nI (a 2 - 1) := by rw [zF_at]; exact fun z => ql (by have := (nI_eq (by omega) (by omega)).mp z; omega)
      rw [if_neg ql, if_neg c2]
      have e4 : zF a 4 + 0 = nI (a 4) := nI_add _ 0
      dsimp only
      rw [e4, zF_up, zF_up, um_id rfl, e_ball]
      refine ⟨⟨bd_ball hb ?_ ?_ ?_ ?_ ?_ ?_ ?_ ?_ (fun c hc => ?_) (fun c hc h2c => ?_), zBr_k hr ?_ ?_ (fun j hj => ?_)⟩, rfl⟩
      all_goals (try rw [mBall_n (by omega)])
      all_goals (try rw [mBall_n (by omega)])
      all_goals (try simp (disch := omega) only [um_n, um_s])
      all_goals (try omega)
      · exact hp c hc
      · exact hz c hc h2c
  · have c1 : ¬ zF a (34 + a 3) ≤ 0 := by rw [zF_at, lI0]; exact fun z => q (by have := (nI_leI (by omega) (by omega)).mp z; omega)
    rw [if_neg q, if_neg c1]
    have e34 : zF a (34 + a 3) - 1 = nI (a (34 + a 3) - 1) := by rw [zF_at, lI1]; exact pk_sub (by omega)
    dsimp only
    rw [e34, zF_up, e_ball]
    refine ⟨⟨bd_ball hb ?_ ?_ ?_ ?_ ?_ ?_ ?_ ?_ (fun c hc => ?_) (fun c hc h2c => ?_), zBr_k hr ?_ ?_ (fun j hj => ?_)⟩, rfl⟩
    all_goals (try rw [mBall_n (by omega)])
    all_goals (try rw [mBall_n (by omega)])
    all_goals (try simp (disch := omega) only [um_n])
    all_goals (try omega)
    · have := hp c hc
      by_cases e : c = a 3
      · subst e; rw [um_s]; omega
      · rw [um_n (by omega)]; exact this
    · have h2d : a 2 ≤ c := by
        have e : um a (34 + a 3) (a (34 + a 3) - 1) 2 = a 2 := um_n (by omega)
        rw [← e]; exact h2c
      rw [um_n (by omega)]
      exact hz c hc h2d
theorem mScores_p {b : Nat} {a : Nat → Nat} {k y : Nat} (h3 : a 3 ≤ 3) (hk : k ≤ 3) (c : Nat) (hc : c < 4) (hp : a (34 + c) ≤ 3 ∧ (5000 ≤ a (30 + c) ∧ a (38 + c) = 1 ∨ a (30 + c) < 5000 ∧ a (38 + c) = 0)) : mScores a k y (34 + c) ≤ 3 ∧ (5000 ≤ mScores a k y (30 + c) ∧ mScores a k y (38 + c) = 1 ∨ mScores a k y (30 + c) < 5000 ∧ mScores a k y (38 + c) = 0) := by
  obtain ⟨p2, p3⟩ := hp
  rw [mScores_30 hk h3 (by omega), mScores_34 hk h3 (by omega), mScores_38 hk h3 (by omega)]
  by_cases e : c = a 3
  · simp only [e, if_true, true_and]
    rw [e] at p2 p3
    refine ⟨?_, ?_⟩
    · repeat' split
      all_goals omega
    · by_cases q : 5000 ≤ a (30 + a 3) + y ∧ a (38 + a 3) = 0
      · rw [if_pos q]; omega
      · rw [if_neg q]; omega
  · simp only [e, if_false, false_and]
    omega
/-- a drain: the model's, and the invariant -/
theorem in_drain {b : Nat} {a : Nat → Nat} (h : zInv b a) (hb' : b + 1 ≤ 20000) (hr0 : a 0 = 1) : zInv (b + 1) (mDrain a).2 ∧ n_X9_drains (zF a) = (nI (mDrain a).1, zF (mDrain a).2) := by
  obtain ⟨hb, hr⟩ := h
  have hbb := hb
  obtain ⟨g0, g1, g2, g3, g4, g5, g6, g7, g8, g9, g10, g11, g12, g13, g14, g15, gl, gb, gd, gr, gp, gz⟩ := hb
  obtain ⟨r1, r2, r3, r4, r5, r6⟩ := gr hr0
  have e14 : zF a 14 + 1 = nI (a 14 + 1) := nI_1 _
  have t1 : zF a 11 = 1 ↔ a 11 = 1 := by rw [zF_at, lI1]; exact nI_eq (by omega) (by omega)
  have t10 : 3 < zF a 10 ↔ 3 < a 10 := by rw [zF_at, lI3]; exact nI_ltI (by omega) (by omega)
  have t12 : zF a 12 = 0 ↔ a 12 = 0 := by rw [zF_at, lI0]; exact nI_eq (by omega) (by omega)
  have h10 : ¬ (1 : Int32) = 0 := by decide
  have sv : n_X9_isSaver (zF a) = if a 11 = 0 ∧ a 10 ≤ 3 ∧ a 12 = 0 then 1 else 0 := by
    unfold n_X9_isSaver n_X9_isTilt
    by_cases q1 : a 11 = 1
    · have w1 := t1.mpr q1
      have n1 : ¬ (a 11 = 0 ∧ a 10 ≤ 3 ∧ a 12 = 0) := by omega
      simp only [if_pos w1, if_neg n1, h10, if_false]
    · have w1 : ¬ zF a 11 = 1 := fun z => q1 (t1.mp z)
      by_cases q2 : 3 < a 10
      · have w2 := t10.mpr q2
        have n1 : ¬ (a 11 = 0 ∧ a 10 ≤ 3 ∧ a 12 = 0) := by omega
        simp only [if_neg w1, if_pos w2, if_neg n1, if_true]
      · have w2 : ¬ 3 < zF a 10 := fun z => q2 (t10.mp z)
        by_cases q3 : a 12 = 0
        · have w3 := t12.mpr q3
          have n1 : a 11 = 0 ∧ a 10 ≤ 3 ∧ a 12 = 0 := by omega
          simp only [if_neg w1, if_neg w2, if_pos w3, if_pos n1, if_true]
        · have w3 : ¬ zF a 12 = 0 := fun z => q3 (t12.mp z)
          have n1 : ¬ (a 11 = 0 ∧ a 10 ≤ 3 ∧ a 12 = 0) := by omega
          simp only [if_neg w1, if_neg w2, if_neg w3, if_neg n1, if_true]
  unfold n_X9_drains mDrain
  rw [sv]
  by_cases q : a 11 = 0 ∧ a 10 ≤ 3 ∧ a 12 = 0
  · simp only [if_pos q, h10, if_false]
    refine ⟨⟨?_, zBr_up (zBr_k hr (um_n (by omega)) ?_ (fun j hj => um_n (by omega))) (by omega)⟩, ?_⟩
    · refine bd_up ?_ (Nat.le_succ b) hb'
      have dl : ∀ j, j ≠ 12 → um a 12 1 j = a j := fun j hj => um_n hj
      unfold zBd
      rw [dl 0 (by omega), dl 1 (by omega), dl 2 (by omega), dl 3 (by omega), dl 4 (by omega), dl 5 (by omega), dl 6 (by omega), dl 7 (by omega), dl 8 (by omega), dl 9 (by omega), dl 10 (by omega), dl 11 (by omega), um_s, dl 13 (by omega), dl 14 (by omega), dl 15 (by omega)]
      refine ⟨g0, g1, g2, g3, g4, g5, g6, g7, g8, g9, g10, g11, by omega, g13, g14, g15, fun i hi => ?_, fun i hi => ?_, fun i hi => ?_, fun z => ⟨r1, r2, r3, r4, r5, fun i hi => ?_⟩, fun c hc => ?_, fun c hc h2c => by rw [dl _ (by omega), dl _ (by omega)]; exact gz c hc h2c⟩
      · rw [dl _ (by omega)]; exact gl i hi
      · rw [dl _ (by omega)]; exact gb i hi
      · rw [dl _ (by omega)]; exact gd i hi
      · rw [dl _ (by omega)]; exact r6 i hi
      · rw [dl _ (by omega), dl _ (by omega), dl _ (by omega)]; exact gp c hc
    · rw [um_n (by omega), um_n (by omega)]; omega
    · rw [lI1, zF_up]; rfl
  · simp only [if_neg q, if_true]
    have dl : ∀ j, j ≠ 14 → um a 14 (a 14 + 1) j = a j := fun j hj => um_n hj
    have tl : n_X9_isTilt (upd (zF a) 14 (zF a 14 + 1)) = if a 11 = 1 then 1 else 0 := by
      unfold n_X9_isTilt
      rw [pk_un (by omega)]
      by_cases q1 : a 11 = 1
      · rw [if_pos q1, if_pos (t1.mpr q1)]
      · rw [if_neg q1, if_neg (fun z => q1 (t1.mp z))]
    rw [tl, e14, zF_up]
    by_cases q1 : a 11 = 1
    · simp only [if_pos q1, h10, if_false]
      obtain ⟨f1, f2⟩ := in_follow (b := b + 1) (a := um a 14 (a 14 + 1)) hb' ⟨by rw [dl 0 (by omega)]; omega, by rw [dl 1 (by omega)]; omega, by rw [dl 2 (by omega)]; omega, by rw [dl 2 (by omega)]; omega, by rw [dl 2 (by omega), dl 3 (by omega)]; omega, by rw [dl 4 (by omega)]; omega, by rw [dl 4 (by omega)]; omega, by rw [dl 13 (by omega)]; omega, by rw [um_s]; omega, by rw [dl 15 (by omega)]; omega, fun c hc => by
        rw [dl _ (by omega), dl _ (by omega), dl _ (by omega)]
        have := gp c hc; omega, fun c hc h2c => by
        rw [dl 2 (by omega)] at h2c
        rw [dl _ (by omega), dl _ (by omega)]; exact gz c hc h2c⟩ (zBr_up (zBr_k hr (dl _ (by omega)) (by rw [dl 0 (by omega), dl 1 (by omega)]; omega) (fun j hj => dl j (by omega))) (by omega)) (by rw [dl _ (by omega)]; omega) (by rw [dl _ (by omega)]; omega) (by rw [dl _ (by omega)]; omega) (by rw [dl _ (by omega)]; omega) (by rw [dl _ (by omega)]; omega) (by rw [dl _ (by omega)]; omega) (by rw [dl _ (by omega)]; omega) (fun i hi => by rw [dl _ (by omega)]; exact gl i hi) (fun i hi => by rw [dl _ (by omega)]; exact gb i hi) (fun i hi => by rw [dl _ (by omega)]; exact gd i hi)
      exact ⟨f1, by rw [f2]; rfl⟩
    · simp only [if_neg q1, if_true]
      have hy : 100 * a 7 * a 5 ≤ 600 * a 7 := by
        have := Nat.mul_le_mul_left (100 * a 7) g6
        omega
      have hm : (100 : Int32) * zF (um a 14 (a 14 + 1)) 7 = nI (100 * a 7) := by rw [zF_at, dl 7 (by omega), lI100, pk_mul]
      have hm' : (100 : Int32) * zF a 7 = nI (100 * a 7) := by rw [zF_at, lI100, pk_mul]
      have hp3 := gp (a 3) (by omega)
      have sc : n_X9_scores (zF (um a 14 (a 14 + 1))) 3 (nI (100 * a 7)) = (nI (100 * a 7 * a 5), zF (mScores (um a 14 (a 14 + 1)) 3 (100 * a 7 * a 5))) := by
        rw [e_scores (by omega) (by rw [dl 3 (by omega)]; exact g4) (by rw [dl 3 (by omega), dl 5 (by omega), dl _ (by omega)]; omega) (by rw [dl 3 (by omega), dl _ (by omega)]; omega) (by rw [dl 3 (by omega), dl _ (by omega)]; omega), dl 5 (by omega)]
      rw [hm', sc]
      generalize 100 * a 7 * a 5 = y at *
      have d3 : um a 14 (a 14 + 1) 3 ≤ 3 := by rw [dl 3 (by omega)]; exact g4
      have S : ∀ j, j < 30 ∨ 46 ≤ j → j ≠ 14 → mScores (um a 14 (a 14 + 1)) 3 y j = a j := fun j hj h14 => by
        rw [mScores_k (by omega) d3 hj, dl j h14]
      have S14 : mScores (um a 14 (a 14 + 1)) 3 y 14 = a 14 + 1 := by
        rw [mScores_k (by omega) d3 (by omega), um_s]
      obtain ⟨f1, f2⟩ := in_follow (b := b + 1) (a := mScores (um a 14 (a 14 + 1)) 3 y) hb' ⟨by rw [S 0 (by omega) (by omega)]; omega, by rw [S 1 (by omega) (by omega)]; omega, by rw [S 2 (by omega) (by omega)]; omega, by rw [S 2 (by omega) (by omega)]; omega, by rw [S 2 (by omega) (by omega), S 3 (by omega) (by omega)]; omega, by rw [S 4 (by omega) (by omega)]; omega, by rw [S 4 (by omega) (by omega)]; omega, by rw [S 13 (by omega) (by omega)]; omega, by rw [S14]; omega, by rw [S 15 (by omega) (by omega)]; omega, fun c hc => by
        have := gp c hc
        have u := mScores_p (b := b) (k := 3) (y := y) d3 (by omega) c hc (by rw [dl _ (by omega), dl _ (by omega), dl _ (by omega)]; exact this.2.2)
        refine ⟨?_, u⟩
        rw [mScores_30 (by omega) d3 (by omega), dl 3 (by omega), dl _ (by omega)]
        split
        all_goals omega, fun c hc h2c => by
        rw [S 2 (by omega) (by omega)] at h2c
        rw [mScores_30 (by omega) d3 (by omega), mScores_34 (by omega) d3 (by omega), dl 3 (by omega), if_neg (by omega), if_neg (by omega), dl _ (by omega), dl _ (by omega)]
        exact gz c hc h2c⟩ (zBr_up (zBr_k hr (S _ (by omega) (by omega)) (by rw [S 0 (by omega) (by omega), S 1 (by omega) (by omega)]; omega) (fun j hj => S j (by omega) (by omega))) (by omega)) (by rw [S _ (by omega) (by omega)]; omega) (by rw [S _ (by omega) (by omega)]; omega) (by rw [S _ (by omega) (by omega)]; omega) (by rw [S _ (by omega) (by omega)]; omega) (by rw [S _ (by omega) (by omega)]; omega) (by rw [S _ (by omega) (by omega)]; omega) (by rw [S _ (by omega) (by omega)]; omega) (fun i hi => by rw [S _ (by omega) (by omega)]; exact gl i hi) (fun i hi => by rw [S _ (by omega) (by omega)]; exact gb i hi) (fun i hi => by rw [S _ (by omega) (by omega)]; exact gd i hi)
      exact ⟨f1, by rw [f2]⟩
