/-! the whole parse; the commands one after another -/
def zGr (k : Nat) (fi : Nat → Option Nat) (fg gk gn : Nat → Int32) : Prop := ∀ j, j < k → ∃ i, i < 8 ∧ fi j = some i ∧ gk j = nI (mkd i) ∧ gn j = fg j
section PP
variable {ft gi : Nat → Int32} {L : Nat}
theorem p_step (hL : L ≤ 60) {p : Nat} (hp : p ≤ L) (hg : ∀ j, j < L → gi j = ft j) {k : Nat} (hk : 5 * k ≤ p) {fi : Nat → Option Nat} {fg gk gn : Nat → Int32} (hA : zGr k fi fg gk gn) : ∃ gk' gn', n_X9_command (nI L) (nI p) (nI k) gi gk gn = (nI (zst ft L p k fi fg).2.1, nI (zst ft L p k fi fg).2.2.1, (if (zst ft L p k fi fg).1 = 0 then 1 else 0), gk', gn') ∧ zGr (zst ft L p k fi fg).2.2.1 (zst ft L p k fi fg).2.2.2.1 (zst ft L p k fi fg).2.2.2.2 gk' gn' := by
  rw [p_cmd hL hp hg (show k ≤ 31 by omega) gk gn]
  unfold zst
  by_cases c : (zrcm ft L p).1 = 0
  · rw [if_pos c, if_pos c]
    exact ⟨gk, gn, rfl, hA⟩
  · rw [if_neg c, if_neg c]
    obtain ⟨s1, s2, s3⟩ := zrcm_sp hp c
    refine ⟨_, _, rfl, fun j hj => ?_⟩
    have hj' : j < k + 1 := hj
    by_cases e : j = k
    · subst e
      refine ⟨(zrcm ft L p).2.2.1, s3, if_pos rfl, ?_, ?_⟩
      · unfold upd; rw [if_pos rfl]
      · show upd gn j _ j = upd fg j _ j
        unfold upd; rw [if_pos rfl, if_pos rfl]
    · obtain ⟨i, h1, h2, h3, h4⟩ := hA j (by omega)
      refine ⟨i, h1, (if_neg e).trans h2, ?_, ?_⟩
      · unfold upd; rw [if_neg e]; exact h3
      · show upd gn k _ j = upd fg k _ j
        unfold upd; rw [if_neg e, if_neg e]; exact h4
def zPr (L : Nat) (x : zPs) (o : Int32 × Int32 × Int32 × Int32 × Int32 × (Nat → Int32) × (Nat → Int32)) : Prop := ∃ gk gn, o = (0, nI L, nI x.2.1, nI x.2.2.1, (if x.1 = 0 then 1 else 0), gk, gn) ∧ zGr x.2.2.1 x.2.2.2.1 x.2.2.2.2 gk gn
theorem p_loop (hL : L ≤ 60) (hg : ∀ j, j < L → gi j = ft j) : ∀ (f : Nat) (x : zPs) (gk gn : Nat → Int32), zPk L x → zGr x.2.2.1 x.2.2.2.1 x.2.2.2.2 gk gn → L < f + x.2.1 → zPr L (zpl ft L f x) (n_X9_parse_L1 (nI L) gi (f + 1) gk gn (nI x.2.1) (nI x.2.2.1) (if x.1 = 0 then 1 else 0)) := by
  intro f
  induction f with
  | zero => intro x gk gn h1 _ h3; have := h1.2.1; omega
  | succ f ih =>
    intro x gk gn h1 h2 h3
    obtain ⟨k1, k2, k3, k4⟩ := id h1
    rw [n_X9_parse_L1, zpl]
    by_cases c : x.1 = 0
    · rw [if_pos c, if_pos c, if_neg (show ¬ (1 : Int32) = 0 by decide), ite_self]
      exact ⟨gk, gn, by rw [if_pos c], h2⟩
    · have zp : zn (nI x.2.1) = x.2.1 := zn_I (by omega)
      rw [if_neg c, if_neg c, if_pos (show (0 : Int32) = 0 from rfl)]
      dsimp only
      rw [p_mark hL hg (show x.2.1 ≤ 100 by omega), zp]
      have eL : (nI L ≤ nI x.2.1) ↔ L ≤ x.2.1 := nI_leI (by omega) (by omega)
      by_cases d : L ≤ x.2.1
      · rw [if_pos d, if_neg (show ¬ x.2.1 < L by omega), if_neg (show ¬ (-1 : Int32) = 59 by decide), if_pos (eL.mpr d)]
        exact ⟨gk, gn, by rw [if_neg c], h2⟩
      · rw [if_neg d, if_pos (show x.2.1 < L by omega), if_neg (show ¬ 60 ≤ x.2.2.1 by omega)]
        by_cases e : ft x.2.1 = 59
        · have er : zrd ft L x.2.1 59 = (1, x.2.1 + 1) := by unfold zrd; rw [if_pos ⟨by omega, e⟩]
          rw [if_pos e, er, if_neg (show ¬ ((1 : Int32), x.2.1 + 1).1 = 0 from (by decide : ¬ (1 : Int32) = 0))]
          obtain ⟨gk', gn', e1, e2⟩ := p_step hL (show x.2.1 + 1 ≤ L by omega) hg (show 5 * x.2.2.1 ≤ x.2.1 + 1 by omega) h2
          rw [e1]
          have hp9 : x.2.1 + 1 ≤ (zst ft L (x.2.1 + 1) x.2.2.1 x.2.2.2.1 x.2.2.2.2).2.1 := by
            have := (zrcm_p ft L (x.2.1 + 1) hL (by omega)).1
            unfold zst
            split <;> exact this
          exact ih (zst ft L (x.2.1 + 1) x.2.2.1 x.2.2.2.1 x.2.2.2.2) gk' gn' (zst_k hL (by omega) k3 (by omega)) e2 (by omega)
        · have er : zrd ft L x.2.1 59 = (0, x.2.1) := by unfold zrd; rw [if_neg (fun z => e z.2)]
          rw [if_neg e, er, if_pos (show ((0 : Int32), x.2.1).1 = 0 from rfl), if_neg (fun z => d (eL.mp z))]
          exact ⟨gk, gn, rfl, h2⟩
theorem p_parse (hL : L ≤ 60) (hg : ∀ j, j < L → gi j = ft j) (fi : Nat → Option Nat) (fg gk gn : Nat → Int32) : zPr L (zparse ft L fi fg) (n_X9_parse (nI L) gi gk gn) := by
  unfold n_X9_parse zparse
  obtain ⟨gk', gn', e1, e2⟩ := p_step (fi := fi) (fg := fg) (gk := gk) (gn := gn) hL (Nat.zero_le L) hg (k := 0) (Nat.zero_le _) (fun j hj => absurd hj (Nat.not_lt_zero j))
  have e0 : n_X9_command (nI L) 0 0 gi gk gn = _ := e1
  rw [e0]
  exact p_loop hL hg 61 _ gk' gn' (zst_k hL (Nat.zero_le L) (fun j hj => absurd hj (Nat.not_lt_zero j)) (Nat.le_refl 0)) e2 (by omega)
end PP
/-! one command is run -/
def zKd (i : Nat) (x : Int32) : Prop := (i = 2 ∧ x = 0) ∨ (i = 3 ∧ x = 1) ∨ (i = 4 ∧ x = 2) ∨ (i = 5 ∧ x = 3) ∨ (i = 0 ∧ x = 4) ∨ (i = 1 ∧ x = 5) ∨ (i = 6 ∧ x = 6) ∨ (i = 7 ∧ ¬ x = 0 ∧ ¬ x = 1 ∧ ¬ x = 2 ∧ ¬ x = 3 ∧ ¬ x = 4 ∧ ¬ x = 5 ∧ ¬ x = 6)
theorem zKd_m : ∀ i, i < 8 → zKd i (nI (mkd i)) := by
  intro i hi
  unfold zKd
  obtain rfl | rfl | rfl | rfl | rfl | rfl | rfl | rfl : i = 0 ∨ i = 1 ∨ i = 2 ∨ i = 3 ∨ i = 4 ∨ i = 5 ∨ i = 6 ∨ i = 7 := by omega
  all_goals decide
theorem zKd_ex (x : Int32) : ∃ i, i < 8 ∧ zKd i x := by
  unfold zKd
  by_cases c0 : x = 0
  · exact ⟨2, by omega, Or.inl ⟨rfl, c0⟩⟩
  by_cases c1 : x = 1
  · exact ⟨3, by omega, Or.inr (Or.inl ⟨rfl, c1⟩)⟩
  by_cases c2 : x = 2
  · exact ⟨4, by omega, Or.inr (Or.inr (Or.inl ⟨rfl, c2⟩))⟩
  by_cases c3 : x = 3
  · exact ⟨5, by omega, Or.inr (Or.inr (Or.inr (Or.inl ⟨rfl, c3⟩)))⟩
  by_cases c4 : x = 4
  · exact ⟨0, by omega, Or.inr (Or.inr (Or.inr (Or.inr (Or.inl ⟨rfl, c4⟩))))⟩
  by_cases c5 : x = 5
  · exact ⟨1, by omega, Or.inr (Or.inr (Or.inr (Or.inr (Or.inr (Or.inl ⟨rfl, c5⟩)))))⟩
  by_cases c6 : x = 6
  · exact ⟨6, by omega, Or.inr (Or.inr (Or.inr (Or.inr (Or.inr (Or.inr (Or.inl ⟨rfl, c6⟩))))))⟩
  · exact ⟨7, by omega, Or.inr (Or.inr (Or.inr (Or.inr (Or.inr (Or.inr (Or.inr ⟨rfl, c0, c1, c2, c3, c4, c5, c6⟩))))))⟩
theorem zIx (v : Int32) (N : Nat) (h1 : 1 ≤ N) (hN : N ≤ 50) : (∃ i, i < N ∧ v = nI i ∧ n_X9_in v 0 (nI (N - 1)) = 1 ∧ n_X8_isIndex v (nI N) = 1) ∨ (n_X9_in v 0 (nI (N - 1)) = 0 ∧ n_X8_isIndex v (nI N) = 0) := by
  rcases ix_c v (N := N) (by omega) with ⟨i, hi, rfl⟩ | ⟨c1, c2⟩
  · left
    have q0 : ¬ nI i < 0 := fun h => by
      have := (nI_ltI (b := 0) (by omega) (by omega)).mp h
      omega
    have q1 : ¬ nI (N - 1) < nI i := fun h => by
      have := (nI_ltI (by omega) (by omega)).mp h
      omega
    have q2 : ¬ nI N ≤ nI i := fun h => by
      have := (nI_leI (by omega) (by omega)).mp h
      omega
    refine ⟨i, hi, rfl, ?_, ?_⟩
    · unfold n_X9_in
      rw [if_neg q0, if_neg q1]
    · unfold n_X8_isIndex
      rw [if_neg q0, if_neg q2]
  · right
    have h9 : nI N - 1 = nI (N - 1) := by rw [lI1, pk_sub h1]
    rw [h9] at c2
    exact ⟨c2, c1⟩
set_option maxHeartbeats 1000000 in
theorem p_can {b : Nat} {a : Nat → Nat} (hI : zInv b a) (hb : b + 1 ≤ 20000) {i : Nat} {gk gn : Nat → Int32} {k : Nat} (hk : zKd i (gk k)) : n_X9_cannot (zF a) gk gn k = if zAl a i (gn k) = 0 then (1, zF a) else (0, zF (zOp a i (gn k))) := by
  have hB := hI.1
  have h2 : a 2 ≤ 4 := hB.2.2.2.1
  have h0 : a 0 ≤ 1 := hB.2.1
  have h01 : (nI (a 0) = 0 ∧ n_X9_runs (zF a) = 0) ∨ (nI (a 0) = 1 ∧ n_X9_runs (zF a) = 1) := by
    have h2 : a 0 = 0 ∨ a 0 = 1 := by omega
    unfold n_X9_runs
    rw [show zF a 0 = nI (a 0) from rfl]
    rcases h2 with e | e
    · rw [e]; exact Or.inl ⟨rfl, rfl⟩
    · rw [e]; exact Or.inr ⟨rfl, rfl⟩
  have hr1 : nI (a 0) = 1 → a 0 = 1 := fun z => by
    have h2 : a 0 = 0 ∨ a 0 = 1 := by omega
    rcases h2 with e | e
    · rw [e] at z; exact absurd z (by decide)
    · exact e
  unfold n_X9_cannot
  generalize gk k = x at hk
  generalize gn k = v
  rcases hk with ⟨rfl, rfl⟩ | ⟨rfl, rfl⟩ | ⟨rfl, rfl⟩ | ⟨rfl, rfl⟩ | ⟨rfl, rfl⟩ | ⟨rfl, rfl⟩ | ⟨rfl, rfl⟩ | ⟨rfl, c0, c1, c2, c3, c4, c5, c6⟩
  · rcases zIx v 4 (by omega) (by omega) with ⟨j, hj, rfl, q1, q2⟩ | ⟨q1, q2⟩
    · have q1 : n_X9_in (nI j) 0 3 = 1 := q1
      have q2 : n_X8_isIndex (nI j) 4 = 1 := q2
      rcases h01 with ⟨n0, r0⟩ | ⟨n0, r0⟩
      · simp [n_X9_cannotHit4, zAl_2, r0, n0, q1, q2]
      · have ez : zOp a 2 (nI j) = (mLane a j).2 := by
          show (mLane a (zn (nI j))).2 = _
          rw [zn_I (show j < 2 ^ 31 by omega)]
        simp [n_X9_cannotHit4, zAl_2, r0, n0, q1, q2, ez, zn_I (show j < 2 ^ 31 by omega), e_lane hB hj]
    · have q1 : n_X9_in v 0 3 = 0 := q1
      have q2 : n_X8_isIndex v 4 = 0 := q2
      simp [n_X9_cannotHit4, zAl_2, q1, q2]
  · rcases zIx v 3 (by omega) (by omega) with ⟨j, hj, rfl, q1, q2⟩ | ⟨q1, q2⟩
    · have q1 : n_X9_in (nI j) 0 2 = 1 := q1
      have q2 : n_X8_isIndex (nI j) 3 = 1 := q2
      rcases h01 with ⟨n0, r0⟩ | ⟨n0, r0⟩
      · simp [n_X9_cannotHit3, zAl_3, r0, n0, q1, q2]
      · have ez : zOp a 3 (nI j) = (mBump a j).2 := by
          show (mBump a (zn (nI j))).2 = _
          rw [zn_I (show j < 2 ^ 31 by omega)]
        simp [n_X9_cannotHit3, zAl_3, r0, n0, q1, q2, ez, zn_I (show j < 2 ^ 31 by omega), e_bump hB hj]
    · have q1 : n_X9_in v 0 2 = 0 := q1
      have q2 : n_X8_isIndex v 3 = 0 := q2
      simp [n_X9_cannotHit3, zAl_3, q1, q2]
  · rcases zIx v 5 (by omega) (by omega) with ⟨j, hj, rfl, q1, q2⟩ | ⟨q1, q2⟩
    · have q1 : n_X9_in (nI j) 0 4 = 1 := q1
      have q2 : n_X8_isIndex (nI j) 5 = 1 := q2
      rcases h01 with ⟨n0, r0⟩ | ⟨n0, r0⟩
      · simp [n_X9_cannotHit5, zAl_4, r0, n0, q1, q2]
      · have ez : zOp a 4 (nI j) = (mTarg a j).2 := by
          show (mTarg a (zn (nI j))).2 = _
          rw [zn_I (show j < 2 ^ 31 by omega)]
        simp [n_X9_cannotHit5, zAl_4, r0, n0, q1, q2, ez, zn_I (show j < 2 ^ 31 by omega), e_targ hB hj]
    · have q1 : n_X9_in v 0 4 = 0 := q1
      have q2 : n_X8_isIndex v 5 = 0 := q2
      simp [n_X9_cannotHit5, zAl_4, q1, q2]
  · rcases if_c v with ⟨j, hj1, hj3, rfl⟩ | ⟨q2, q1⟩
    · have q1 : n_X9_in (nI j) 1 3 = 1 := by
        obtain rfl | rfl | rfl : j = 1 ∨ j = 2 ∨ j = 3 := by omega
        all_goals decide
      have q2 : n_X8_isForce (nI j) = 1 := by
        obtain rfl | rfl | rfl : j = 1 ∨ j = 2 ∨ j = 3 := by omega
        all_goals decide
      rcases h01 with ⟨n0, r0⟩ | ⟨n0, r0⟩
      · simp [n_X9_cannotNudge, zAl_5, r0, n0, q1, q2]
      · have ez : zOp a 5 (nI j) = (mNudge a j).2 := by
          show (mNudge a (zn (nI j))).2 = _
          rw [zn_I (show j < 2 ^ 31 by omega)]
        simp [n_X9_cannotNudge, zAl_5, r0, n0, q1, q2, ez, e_nudge hB hj3]
    · simp [n_X9_cannotNudge, zAl_5, q1, q2]
  · have ea : zAl a 0 v = n_X6_canAdmit (nI (a 2)) (nI (a 0)) := rfl
    have ez : zOp a 0 v = mAdds a := rfl
    have z2 : zF a 2 = nI (a 2) := rfl
    rcases h01 with ⟨n0, r0⟩ | ⟨n0, r0⟩
    · by_cases c : a 2 = 4
      · have e4 : nI (a 2) = 4 := by rw [c]; rfl
        simp [n_X9_cannotAdd, ea, n_X6_canAdmit, r0, n0, z2, e4]
      · have e4 : ¬ nI (a 2) = 4 := fun z => c ((nI_eq (b := 4) (by omega) (by omega)).mp z)
        have l4 : ¬ 4 ≤ nI (a 2) := fun z => c (by have := (nI_leI (a := 4) (by omega) (by omega)).mp z; omega)
        simp only [n_X9_cannotAdd, ea, n_X6_canAdmit, r0, n0, z2, e4, l4, ez, e_adds hB, if_true, if_false]
        simp
    · simp [n_X9_cannotAdd, ea, n_X6_canAdmit, r0, n0]
  · have ez : zOp a 1 v = mStarts a := rfl
    have z2 : zF a 2 = nI (a 2) := rfl
    rcases h01 with ⟨n0, r0⟩ | ⟨n0, r0⟩
    · by_cases c : a 2 = 0
      · have e4 : nI (a 2) = 0 := by rw [c]; rfl
        simp [n_X9_cannotStart, zAl_1, r0, n0, z2, e4]
      · have e4 : ¬ nI (a 2) = 0 := fun z => c ((nI_eq (b := 0) (by omega) (by omega)).mp z)
        have l4 : ¬ nI (a 2) ≤ 0 := fun z => c (by have := (nI_leI (b := 0) (by omega) (by omega)).mp z; omega)
        simp only [n_X9_cannotStart, zAl_1, r0, n0, z2, e4, l4, ez, e_starts, if_true, if_false]
        simp
    · simp [n_X9_cannotStart, zAl_1, r0, n0]
  · have ea : zAl a 6 v = nI (a 0) := rfl
    have ez : zOp a 6 v = (mDrain a).2 := rfl
    rcases h01 with ⟨n0, r0⟩ | ⟨n0, r0⟩
    · simp [ea, r0, n0]
    · simp [ea, ez, r0, n0, (in_drain hI hb (hr1 n0)).2]
  · have ea : zAl a 7 v = nI (a 0) := rfl
    have ez : zOp a 7 v = um a 0 0 := rfl
    rcases h01 with ⟨n0, r0⟩ | ⟨n0, r0⟩
    · simp [ea, r0, n0, c0, c1, c2, c3, c4, c5, c6]
    · simp [ea, ez, r0, n0, c0, c1, c2, c3, c4, c5, c6, e_quits]
