/-- a step of entering a game's players -/
def zFs (b : Nat) (f s : Nat → Nat) (k : Nat) (o : Int32 × (Nat → Int32) × (Nat → Int32) × (Nat → Int32)) : Prop := o.1 = nI (s 13) ∧ zRw s o.2.1 o.2.2.1 o.2.2.2 ∧ zRk b s k ∧ s 13 ≤ 5 ∧ ∀ j, j < 46 → j ≠ 13 → s j = f j
theorem zFs_step {b : Nat} {f s : Nat → Nat} {k : Nat} {o : Int32 × (Nat → Int32) × (Nat → Int32) × (Nat → Int32)} (h : zFs b f s k o) (hk : k ≤ 3) (hb : b ≤ 20000) (hs : f (30 + k) ≤ 4000 * b) {x y z : Int32} (hx : x = nI (f (30 + k))) (hy : y = nI k) (hz : z = nI (f 1)) : zFs b f (mEnter s k) (k + 1) (n_X4_enter o.1 o.2.1 o.2.2.1 o.2.2.2 x y z) := by
  obtain ⟨h1, h2, h3, h4, h5⟩ := h
  have e30 := h5 (30 + k) (by omega) (by omega)
  have e1 := h5 1 (by omega) (by omega)
  rw [hx, hy, hz, h1, ← e30, ← e1]
  obtain ⟨c1, c2⟩ := c_enter (a := s) (k := k) h4 hk (by omega) (fun i hi => by have := h3.1 i hi; omega) h2
  exact ⟨c1, c2, mEnter_R h4 (by omega) hk h3, mEnter_13 h4, fun j hj hj' => by rw [mEnter_k h4 ⟨hj, hj'⟩]; exact h5 j hj hj'⟩
theorem mFin_s {n : Nat} {a : Nat → Nat} {k : Nat} (h : ¬ a 2 ≤ k) : mFin (n + 1) a k = mFin n (mEnter a k) (k + 1) := by
  rw [mFin, if_neg h]
theorem mFin_e {n : Nat} {a : Nat → Nat} {k : Nat} (h : a 2 ≤ k) : mFin (n + 1) a k = a := by
  rw [mFin, if_pos h]
theorem c_finish {b : Nat} {f : Nat → Nat} {p1 p3 r1 : Int32} {fs fr0 fr1 fr2 : Nat → Int32} (hb : b ≤ 20000) (h2 : 1 ≤ f 2 ∧ f 2 ≤ 4) (h13 : f 13 ≤ 5) (hs : ∀ c, c < 4 → f (30 + c) ≤ 4000 * b) (hR : zRk b f 0) (e1 : p1 = nI (f 2)) (e3 : p3 = nI (f 1)) (hfs : ∀ j, j < 4 → fs j = nI (f (30 + j))) (er : r1 = nI (f 13)) (hw : zRw f fr0 fr1 fr2) :
    (n_X6_finishGame p1 p3 fs r1 fr0 fr1 fr2).1 = 0 ∧ (n_X6_finishGame p1 p3 fs r1 fr0 fr1 fr2).2.1 = nI (mFin 5 f 0 13) ∧ zRw (mFin 5 f 0) (n_X6_finishGame p1 p3 fs r1 fr0 fr1 fr2).2.2.1 (n_X6_finishGame p1 p3 fs r1 fr0 fr1 fr2).2.2.2.1 (n_X6_finishGame p1 p3 fs r1 fr0 fr1 fr2).2.2.2.2 := by
  have L : ∀ n, n < 10 → (p1 ≤ nI n ↔ f 2 ≤ n) := fun n hn => by rw [e1]; exact nI_leI (by omega) (by omega)
  have L0 : p1 ≤ 0 ↔ f 2 ≤ 0 := L 0 (by omega)
  have L1 : p1 ≤ 1 ↔ f 2 ≤ 1 := L 1 (by omega)
  have L2 : p1 ≤ 2 ↔ f 2 ≤ 2 := L 2 (by omega)
  have L3 : p1 ≤ 3 ↔ f 2 ≤ 3 := L 3 (by omega)
  have s0 : zFs b f f 0 (r1, fr0, fr1, fr2) := ⟨er, hw, hR, h13, fun _ _ _ => rfl⟩
  unfold n_X6_finishGame
  have n0 : ¬ p1 ≤ 0 := fun z => by have := L0.mp z; omega
  rw [if_neg n0, mFin_s (n := 4) (by omega)]
  have s1 := zFs_step s0 (by omega) hb (hs 0 (by omega)) (hfs 0 (by omega)) lI0 e3
  dsimp only at s1
  generalize n_X4_enter r1 fr0 fr1 fr2 (fs 0) 0 p3 = o1 at *
  generalize mEnter f 0 = f1 at *
  have m1 : f1 2 = f 2 := s1.2.2.2.2 2 (by omega) (by omega)
  dsimp only
  by_cases q1 : f 2 ≤ 1
  · rw [if_pos (L1.mpr q1), mFin_e (n := 3) (by omega)]
    exact ⟨rfl, s1.1, s1.2.1⟩
  rw [if_neg (fun z => q1 (L1.mp z)), mFin_s (n := 3) (by omega)]
  have s2 := zFs_step s1 (by omega) hb (hs 1 (by omega)) (hfs 1 (by omega)) lI1 e3
  generalize n_X4_enter o1.1 o1.2.1 o1.2.2.1 o1.2.2.2 (fs 1) 1 p3 = o2 at *
  generalize mEnter f1 (0 + 1) = f2 at *
  have m2 : f2 2 = f 2 := s2.2.2.2.2 2 (by omega) (by omega)
  by_cases q2 : f 2 ≤ 2
  · rw [if_pos (L2.mpr q2), mFin_e (n := 2) (by omega)]
    exact ⟨rfl, s2.1, s2.2.1⟩
  rw [if_neg (fun z => q2 (L2.mp z)), mFin_s (n := 2) (by omega)]
  have s3 := zFs_step s2 (by omega) hb (hs 2 (by omega)) (hfs 2 (by omega)) lI2 e3
  generalize n_X4_enter o2.1 o2.2.1 o2.2.2.1 o2.2.2.2 (fs 2) 2 p3 = o3 at *
  generalize mEnter f2 (0 + 1 + 1) = f3 at *
  have m3 : f3 2 = f 2 := s3.2.2.2.2 2 (by omega) (by omega)
  by_cases q3 : f 2 ≤ 3
  · rw [if_pos (L3.mpr q3), mFin_e (n := 1) (by omega)]
    exact ⟨rfl, s3.1, s3.2.1⟩
  rw [if_neg (fun z => q3 (L3.mp z)), mFin_s (n := 1) (by omega)]
  have s4 := zFs_step s3 (by omega) hb (hs 3 (by omega)) (hfs 3 (by omega)) lI3 e3
  generalize n_X4_enter o3.1 o3.2.1 o3.2.2.1 o3.2.2.2 (fs 3) 3 p3 = o4 at *
  generalize mEnter f3 (0 + 1 + 1 + 1) = f4 at *
  have m4 : f4 2 = f 2 := s4.2.2.2.2 2 (by omega) (by omega)
  rw [mFin_e (n := 0) (by omega)]
  exact ⟨rfl, s4.1, s4.2.1⟩
section CLN
variable {b : Nat} {a : Nat → Nat} {p1 p2 p3 p4 p5 : Int32} {fs fx : Nat → Int32} {u1 u2 u3 u4 u5 u6 u7 u8 : Int32} {fl fb fd : Nat → Int32} {r1 : Int32} {fr0 fr1 fr2 : Nat → Int32} {w1 w2 w3 : Int32} {fp : Nat → Int32}
theorem f_next (h : zAg a p1 p2 p3 p4 p5 fs fx u1 u2 u3 u4 u5 u6 u7 u8 fl fb fd r1 fr0 fr1 fr2 w1 w2 w3 fp) (hb : b ≤ 20000) (hP : zPd b a) (hr : zBr b a) :
    zAg (mFollow a) p1 (n_X6_beginNextBall p1 p2 p3 p4 p5 fs fx u1 u2 u3 u4 u5 u6 u7 u8 fl fb fd r1 fr0 fr1 fr2).1 p3 (n_X6_beginNextBall p1 p2 p3 p4 p5 fs fx u1 u2 u3 u4 u5 u6 u7 u8 fl fb fd r1 fr0 fr1 fr2).2.1 (n_X6_beginNextBall p1 p2 p3 p4 p5 fs fx u1 u2 u3 u4 u5 u6 u7 u8 fl fb fd r1 fr0 fr1 fr2).2.2.1 fs (n_X6_beginNextBall p1 p2 p3 p4 p5 fs fx u1 u2 u3 u4 u5 u6 u7 u8 fl fb fd r1 fr0 fr1 fr2).2.2.2.1 (n_X6_beginNextBall p1 p2 p3 p4 p5 fs fx u1 u2 u3 u4 u5 u6 u7 u8 fl fb fd r1 fr0 fr1 fr2).2.2.2.2.1 (n_X6_beginNextBall p1 p2 p3 p4 p5 fs fx u1 u2 u3 u4 u5 u6 u7 u8 fl fb fd r1 fr0 fr1 fr2).2.2.2.2.2.1 (n_X6_beginNextBall p1 p2 p3 p4 p5 fs fx u1 u2 u3 u4 u5 u6 u7 u8 fl fb fd r1 fr0 fr1 fr2).2.2.2.2.2.2.1 (n_X6_beginNextBall p1 p2 p3 p4 p5 fs fx u1 u2 u3 u4 u5 u6 u7 u8 fl fb fd r1 fr0 fr1 fr2).2.2.2.2.2.2.2.1 (n_X6_beginNextBall p1 p2 p3 p4 p5 fs fx u1 u2 u3 u4 u5 u6 u7 u8 fl fb fd r1 fr0 fr1 fr2).2.2.2.2.2.2.2.2.1 (n_X6_beginNextBall p1 p2 p3 p4 p5 fs fx u1 u2 u3 u4 u5 u6 u7 u8 fl fb fd r1 fr0 fr1 fr2).2.2.2.2.2.2.2.2.2.1 (n_X6_beginNextBall p1 p2 p3 p4 p5 fs fx u1 u2 u3 u4 u5 u6 u7 u8 fl fb fd r1 fr0 fr1 fr2).2.2.2.2.2.2.2.2.2.2.1 (n_X6_beginNextBall p1 p2 p3 p4 p5 fs fx u1 u2 u3 u4 u5 u6 u7 u8 fl fb fd r1 fr0 fr1 fr2).2.2.2.2.2.2.2.2.2.2.2.1 (n_X6_beginNextBall p1 p2 p3 p4 p5 fs fx u1 u2 u3 u4 u5 u6 u7 u8 fl fb fd r1 fr0 fr1 fr2).2.2.2.2.2.2.2.2.2.2.2.2.1 (n_X6_beginNextBall p1 p2 p3 p4 p5 fs fx u1 u2 u3 u4 u5 u6 u7 u8 fl fb fd r1 fr0 fr1 fr2).2.2.2.2.2.2.2.2.2.2.2.2.2.1 (n_X6_beginNextBall p1 p2 p3 p4 p5 fs fx u1 u2 u3 u4 u5 u6 u7 u8 fl fb fd r1 fr0 fr1 fr2).2.2.2.2.2.2.2.2.2.2.2.2.2.2.1 (n_X6_beginNextBall p1 p2 p3 p4 p5 fs fx u1 u2 u3 u4 u5 u6 u7 u8 fl fb fd r1 fr0 fr1 fr2).2.2.2.2.2.2.2.2.2.2.2.2.2.2.2.1 (n_X6_beginNextBall p1 p2 p3 p4 p5 fs fx u1 u2 u3 u4 u5 u6 u7 u8 fl fb fd r1 fr0 fr1 fr2).2.2.2.2.2.2.2.2.2.2.2.2.2.2.2.2.1 (n_X6_beginNextBall p1 p2 p3 p4 p5 fs fx u1 u2 u3 u4 u5 u6 u7 u8 fl fb fd r1 fr0 fr1 fr2).2.2.2.2.2.2.2.2.2.2.2.2.2.2.2.2.2.1 (n_X6_beginNextBall p1 p2 p3 p4 p5 fs fx u1 u2 u3 u4 u5 u6 u7 u8 fl fb fd r1 fr0 fr1 fr2).2.2.2.2.2.2.2.2.2.2.2.2.2.2.2.2.2.2 w1 w2 w3 fp := by
  have h' := h
  obtain ⟨e1, e2, e3, e4, e5, hfs, hfx, eu1, eu2, eu3, eu4, eu5, eu6, eu7, eu8, hfl, hfb, hfd, er, hR, ew1, ew2, ew3, hfp⟩ := h
  obtain ⟨h0, h1, h2, h2', h3, h4, h4', h13, h14, h15, hp, hz⟩ := hP
  have Z4 : zn p4 = a 3 := by rw [e4]; exact zn_I (by omega)
  have px := (hp (a 3) (by omega)).2.1
  have fx3 := hfx (a 3) (by omega)
  have c1 : fx (zn p4) ≤ 0 ↔ a (34 + a 3) ≤ 0 := by rw [Z4, fx3, lI0]; exact nI_leI (by omega) (by omega)
  have e41 : p4 + 1 = nI (a 3 + 1) := by rw [e4, nI_1]
  have e51 : p5 + 1 = nI (a 4 + 1) := by rw [e5, nI_1]
  have c2 : p1 ≤ p4 + 1 ↔ a 2 ≤ a 3 + 1 := by rw [e1, e41]; exact nI_leI (by omega) (by omega)
  have c3 : 3 ≤ p5 ↔ 3 ≤ a 4 := by rw [e5, lI3]; exact nI_leI (by omega) (by omega)
  have hm : ¬ (0 : Int32) = -1 := by decide
  unfold n_X6_beginNextBall n_X6_playerAfterLastBall mFollow
  by_cases q : a (34 + a 3) = 0
  · rw [if_pos q, if_pos (c1.mpr (by omega))]
    by_cases ql : a 3 + 1 = a 2
    · rw [if_pos ql]
      by_cases q4 : a 4 = 3
      · have d2 := c2.mpr (by omega)
        have d3 := c3.mpr (by omega)
        simp only [if_pos q4, if_pos d2, if_pos d3, if_true]
        have U : ∀ j, j ≠ 0 → um a 0 0 j = a j := fun j hj => um_n hj
        have hR0 : zRk b (um a 0 0) 0 := by
          refine ⟨fun i hi => ?_, fun i hi => ?_⟩
          · rw [U 13 (by omega)] at hi
            rw [U _ (by omega), U _ (by omega), U _ (by omega), U 1 (by omega)]
            have := hr.1 i hi
            rw [show 47 + 3 * i = 46 + 3 * i + 1 from by omega, show 48 + 3 * i = 46 + 3 * i + 2 from by omega] at this
            omega
          · rw [U 13 (by omega)] at hi
            rw [U _ (by omega), U _ (by omega), U _ (by omega), U _ (by omega), U _ (by omega), U _ (by omega)]
            have := hr.2 i hi
            unfold zBe at this
            rw [show 47 + 3 * i = 46 + 3 * i + 1 from by omega, show 48 + 3 * i = 46 + 3 * i + 2 from by omega, show 47 + 3 * (i + 1) = 46 + 3 * (i + 1) + 1 from by omega, show 48 + 3 * (i + 1) = 46 + 3 * (i + 1) + 2 from by omega] at this
            exact this
        obtain ⟨f1, f2, f3⟩ := c_finish (f := um a 0 0) (p1 := p1) (p3 := p3) (r1 := r1) (fs := fs) (fr0 := fr0) (fr1 := fr1) (fr2 := fr2) hb (by rw [U 2 (by omega)]; omega) h13 (fun c hc => by rw [U _ (by omega)]; exact (hp c hc).1) hR0 (by rw [U 2 (by omega)]; exact e1) (by rw [U 1 (by omega)]; exact e3) (fun j hj => by rw [U _ (by omega)]; exact hfs j hj) er (zRw_k hR (fun j hj => U j (by omega)))
        have K : ∀ j, j < 46 → j ≠ 13 → j ≠ 0 → mFin 5 (um a 0 0) 0 j = a j := fun j h1 h2 h3 => by
          rw [mFin_k ⟨h1, h2⟩ 5 (um a 0 0) 0 h13, U j h3]
        have K0 : mFin 5 (um a 0 0) 0 0 = 0 := by rw [mFin_k ⟨by omega, by omega⟩ 5 (um a 0 0) 0 h13, um_s]
        have k5 := K 5 (by omega) (by omega) (by omega)
        unfold zAg
        rw [K0, K 1 (by omega) (by omega) (by omega), K 2 (by omega) (by omega) (by omega), K 3 (by omega) (by omega) (by omega), K 4 (by omega) (by omega) (by omega), k5, K 6 (by omega) (by omega) (by omega), K 7 (by omega) (by omega) (by omega), K 8 (by omega) (by omega) (by omega), K 9 (by omega) (by omega) (by omega), K 10 (by omega) (by omega) (by omega), K 11 (by omega) (by omega) (by omega), K 12 (by omega) (by omega) (by omega), K 14 (by omega) (by omega) (by omega), K 15 (by omega) (by omega) (by omega), K 42 (by omega) (by omega) (by omega), K 43 (by omega) (by omega) (by omega), K 44 (by omega) (by omega) (by omega), K 45 (by omega) (by omega) (by omega)]
        refine ⟨e1, f1, e3, e4, e5, fun j hj => ?_, fun j hj => ?_, eu1, eu2, eu3, eu4, eu5, eu6, eu7, eu8, fun j hj => ?_, fun j hj => ?_, fun j hj => ?_, f2, f3, ew1, ew2, ew3, fun j hj => ?_⟩
        · rw [K _ (by omega) (by omega) (by omega)]; exact hfs j hj
        · rw [K _ (by omega) (by omega) (by omega)]; exact hfx j hj
        · rw [K _ (by omega) (by omega) (by omega)]; exact hfl j hj
        · rw [K _ (by omega) (by omega) (by omega)]; exact hfb j hj
        · rw [K _ (by omega) (by omega) (by omega)]; exact hfd j hj
        · rw [K _ (by omega) (by omega) (by omega)]; exact hfp j hj
      · have d2 := c2.mpr (by omega)
        have d3 : ¬ 3 ≤ p5 := fun z => by have := c3.mp z; omega
        simp only [if_neg q4, if_pos d2, if_neg d3, if_neg hm, if_true]
        refine zAg_ball h' ?_ ?_ ?_ ?_ ?_ (fun j hj => ?_) (fun j hj => ?_) ?_ (fun j hj => ?_) ?_ ?_ ?_ (fun j hj => ?_)
        all_goals simp (disch := omega) only [um_n, um_s]
        · exact e1
        · exact e2
        · exact e3
        · rfl
        · exact e51
        · exact hfs j hj
        · exact hfx j hj
        · exact er
        · exact ew1
        · exact ew2
        · exact ew3
        · exact hfp j hj
    · have d2 : ¬ p1 ≤ p4 + 1 := fun z => by have := c2.mp z; omega
      have d3 : ¬ p4 + 1 = -1 := by
        rw [e41, show (-1 : Int32) = nI 4294967295 from by decide]
        intro z
        have := congrArg Int32.toInt z
        rw [nI_toInt (by omega)] at this
        have e : (nI 4294967295).toInt = -1 := by decide
        omega
      have d4 : ¬ p4 + 1 = 0 := by rw [e41, lI0]; exact fun z => by have := (nI_eq (by omega) (by omega)).mp z; omega
      simp only [if_neg ql, if_neg d2, if_neg d3, if_neg d4]
      refine zAg_ball h' ?_ ?_ ?_ ?_ ?_ (fun j hj => ?_) (fun j hj => ?_) ?_ (fun j hj => ?_) ?_ ?_ ?_ (fun j hj => ?_)
      all_goals simp (disch := omega) only [um_n, um_s]
      · exact e1
      · exact e2
      · exact e3
      · exact e41
      · exact e5
      · exact hfs j hj
      · exact hfx j hj
      · exact er
      · exact ew1
      · exact ew2
      · exact ew3
      · exact hfp j hj
  · have d1 : ¬ fx (zn p4) ≤ 0 := fun z => by have := c1.mp z; omega
    rw [if_neg q, if_neg d1]
    have ex : fx (zn p4) - 1 = nI (a (34 + a 3) - 1) := by rw [Z4, fx3, lI1]; exact pk_sub (by omega)
    dsimp only
    rw [ex, Z4]
    refine zAg_ball h' ?_ ?_ ?_ ?_ ?_ (fun j hj => ?_) (fun j hj => ?_) ?_ (fun j hj => ?_) ?_ ?_ ?_ (fun j hj => ?_)
    · simp (disch := omega) only [um_n]; exact e1
    · simp (disch := omega) only [um_n]; exact e2
    · simp (disch := omega) only [um_n]; exact e3
    · simp (disch := omega) only [um_n]; exact e4
    · simp (disch := omega) only [um_n]; exact e5
    · simp (disch := omega) only [um_n]; exact hfs j hj
    · by_cases e : j = a 3
      · subst e; rw [pk_us, um_s]
      · rw [pk_un e, um_n (by omega)]; exact hfx j hj
    · simp (disch := omega) only [um_n]; exact er
    · simp (disch := omega) only [um_n]
    · simp (disch := omega) only [um_n]; exact ew1
    · simp (disch := omega) only [um_n]; exact ew2
    · simp (disch := omega) only [um_n]; exact ew3
    · simp (disch := omega) only [um_n]; exact hfp j hj
end CLN
