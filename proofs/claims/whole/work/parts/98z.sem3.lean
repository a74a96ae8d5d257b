section SEM
variable {l : Launch} {E : zEn} {D : zG} {cy : Nat → ClassId} {ad w t q : Nat → Nat} {s : Nat → Nat → Nat} {b : Nat} {f : Nat → va_W}
set_option maxHeartbeats 400000 in
set_option maxRecDepth 100000 in
theorem s_hitLane (x : Int32) (hE : zEok E) (hL0 : l.stackTraces = false) (hX : zOutX E) (hN : zOutN E) (hO : zOut E) (hb : b + 12 ≤ 20000) (h : zAll cy ad w t q s b f) : zKI l E D cy yL_hitLane cL_hitLane 4 [(0, 9, 12, 24), (0, 9, 15, 13)] yX9_hitLane cX9_hitLane 3 (some .int) Int32.toInt64 [.int x] (w 0) (w 20) (w 30) (zWl f zLs) (zPo cy ad w t q s (b + 12)) := by
  obtain ⟨a, n, nn, L, e1, v1, ⟨e2, e3, e4, e5, v3, v4, v8, v9, v10, v11, h0, h20, hx1, hx2⟩, h1, h2, h3, h4, h5, h6, h7, ⟨F, hF⟩, ⟨F', hF'⟩⟩ := h
  have hB := h1.2.2.1
  have hI := h1.2.2
  have hW := hW_of h0 hF'
  obtain ⟨kf, cs, hs, sa, gh, hkf, hn, g2, g3, g4, g5, g6, g7, g8⟩ := id h2
  obtain ⟨gb, ga, k22, k23⟩ := h7
  have h00 : ¬ a 0 = 1 → a 0 = 0 := by have := hB; unfold zBd at this; omega
  have hg1 : a 0 = 1 → zF a 0 = 1 := fun hr => by show nI (a 0) = 1; rw [hr]; rfl
  have hg0 : ¬ a 0 = 1 → ¬ zF a 0 = 1 := fun hr => by show ¬ nI (a 0) = 1; rw [h00 hr]; decide
  have ha2 : a 2 ≤ 4 := by have := hB; unfold zBd at this; omega
  have ha3 : a 3 ≤ 3 := by have := hB; unfold zBd at this; omega
  have ha13 : a 13 ≤ 5 := by have := hB; unfold zBd at this; omega
  have hd8 : zle (nI n) 8 := zle_I hn (by omega)
  have hc3 : zle (zF a 3) 3 := zle_I ha3 (by omega)
  rcases ix_c x (N := 4) (by omega) with ⟨i, hi, rfl⟩ | ⟨hx, hm⟩
  · have hj : ¬ n_X8_isIndex (nI i) 4 = 0 := z_ix 4 (by decide) i hi
    by_cases hr : a 0 = 1
    · obtain ⟨gb', gh', e9, hgg⟩ := mo_ok hn g6 a (mLane a i).2 gb (mLane a i).1 (e_lane hB hi)
      have h9 := fun sz : Nat => c_X9_hitLane_ok l hE D cy (w 20) (w 21) (w 22) (w 23) (w 24) (w 25) (w 26) (w 27) (w 28) (w 29) v1 (nI n) v3 v4 e1 (nI nn) (nI L) v8 v9 v10 v11 (zF a) gb gh (nI i) i (zi_i i) (by omega) (hg1 hr) hc3 hd8 sz
      rw [show n_X9_hitLane_ok (nI n) (zF a) gb gh i = (nI (mLane a i).1, 0, nI (min (n + 1) 8), zF (mLane a i).2, gb', gh') from e9] at h9
      exact op_of hE hb h0 h20 hx1 hx2 h1 hkf hn g2 g3 g4 g5 g7 g8 h3 h4 h5 h6 k22 k23 hF hF' ⟨by omega, by omega, by omega, by omega, by omega, by omega⟩ (in_up (in_lane hI (by omega) hr hi) (by omega) hb) (k_hitLane l hE D cy (w 0) (w 30) F (nI i) hW (oc_i hE hkf h0 h1.1 g2 (g4 kf (by omega)) (fun sz => t_X8_hitLane l hE D cy hO (w 0) (w 1) (q 0) (w 3) (w 7) (w 2) (w 8) t (s kf) e1 e2 e3 e4 e5 a (cs kf) hB hr i hi kf n hkf hn sa (g3 kf (by omega)) sz) rfl)) h9 hgg
    · have h9 := fun sz : Nat => c_X9_hitLane_2 l hE D cy (w 20) (w 21) (w 22) (w 23) (w 24) (w 25) (w 26) (w 27) (w 28) (w 29) v1 (nI n) v3 v4 e1 (nI nn) (nI L) v8 v9 v10 v11 (zF a) gb gh (nI i) i (zi_i i) (by omega) (hg0 hr) hd8 sz
      exact opx_of hE hb h0 h20 hx1 hx2 h1 h2 g5 h3 h4 h5 h6 k22 k23 hF hF' ⟨by omega, by omega, by omega, by omega, by omega, by omega⟩ (k_hitLane_e2 l hE D cy (w 0) (w 30) F (nI i) hW hN hX (rc_x hE h0 h1.1 (fun sz => t_X8_hitLane_e2 l hE D cy (w 0) (w 1) (q 0) (w 3) (w 7) (w 8) t e1 e2 e3 e4 e5 a hL0 hX (nI i) hj (by rw [h00 hr]; rfl) sz))) h9 (by decide)
  · have h9 := fun sz : Nat => c_X9_hitLane_1 l hE D cy (w 20) (w 21) (w 22) (w 23) (w 24) (w 25) (w 26) (w 27) (w 28) (w 29) v1 (nI n) v3 v4 e1 (nI nn) (nI L) v8 v9 v10 v11 (zF a) gb gh x hm hd8 sz
    exact opx_of hE hb h0 h20 hx1 hx2 h1 h2 g5 h3 h4 h5 h6 k22 k23 hF hF' ⟨by omega, by omega, by omega, by omega, by omega, by omega⟩ (k_hitLane_e1 l hE D cy (w 0) (w 30) F x hW hN hX (rc_x hE h0 h1.1 (fun sz => t_X8_hitLane_e1 l hE D cy (w 0) (w 1) (q 0) (w 3) (w 7) (w 8) t e1 e2 e3 e4 e5 a hL0 hX x hx sz))) h9 (by decide)
set_option maxHeartbeats 400000 in
set_option maxRecDepth 100000 in
theorem s_hitBumper (x : Int32) (hE : zEok E) (hL0 : l.stackTraces = false) (hX : zOutX E) (hN : zOutN E) (hO : zOut E) (hb : b + 12 ≤ 20000) (h : zAll cy ad w t q s b f) : zKI l E D cy yL_hitBumper cL_hitBumper 4 [(0, 9, 12, 24), (0, 9, 15, 13)] yX9_hitBumper cX9_hitBumper 3 (some .int) Int32.toInt64 [.int x] (w 0) (w 20) (w 30) (zWl f zLs) (zPo cy ad w t q s (b + 12)) := by
  obtain ⟨a, n, nn, L, e1, v1, ⟨e2, e3, e4, e5, v3, v4, v8, v9, v10, v11, h0, h20, hx1, hx2⟩, h1, h2, h3, h4, h5, h6, h7, ⟨F, hF⟩, ⟨F', hF'⟩⟩ := h
  have hB := h1.2.2.1
  have hI := h1.2.2
  have hW := hW_of h0 hF'
  obtain ⟨kf, cs, hs, sa, gh, hkf, hn, g2, g3, g4, g5, g6, g7, g8⟩ := id h2
  obtain ⟨gb, ga, k22, k23⟩ := h7
  have h00 : ¬ a 0 = 1 → a 0 = 0 := by have := hB; unfold zBd at this; omega
  have hg1 : a 0 = 1 → zF a 0 = 1 := fun hr => by show nI (a 0) = 1; rw [hr]; rfl
  have hg0 : ¬ a 0 = 1 → ¬ zF a 0 = 1 := fun hr => by show ¬ nI (a 0) = 1; rw [h00 hr]; decide
  have ha2 : a 2 ≤ 4 := by have := hB; unfold zBd at this; omega
  have ha3 : a 3 ≤ 3 := by have := hB; unfold zBd at this; omega
  have ha13 : a 13 ≤ 5 := by have := hB; unfold zBd at this; omega
  have hd8 : zle (nI n) 8 := zle_I hn (by omega)
  have hc3 : zle (zF a 3) 3 := zle_I ha3 (by omega)
  rcases ix_c x (N := 3) (by omega) with ⟨i, hi, rfl⟩ | ⟨hx, hm⟩
  · have hj : ¬ n_X8_isIndex (nI i) 3 = 0 := z_ix 3 (by decide) i hi
    by_cases hr : a 0 = 1
    · obtain ⟨gb', gh', e9, hgg⟩ := mo_ok hn g6 a (mBump a i).2 gb (mBump a i).1 (e_bump hB hi)
      have h9 := fun sz : Nat => c_X9_hitBumper_ok l hE D cy (w 20) (w 21) (w 22) (w 23) (w 24) (w 25) (w 26) (w 27) (w 28) (w 29) v1 (nI n) v3 v4 e1 (nI nn) (nI L) v8 v9 v10 v11 (zF a) gb gh (nI i) i (zi_i i) (by omega) (hg1 hr) hc3 hd8 sz
      rw [show n_X9_hitBumper_ok (nI n) (zF a) gb gh i = (nI (mBump a i).1, 0, nI (min (n + 1) 8), zF (mBump a i).2, gb', gh') from e9] at h9
      exact op_of hE hb h0 h20 hx1 hx2 h1 hkf hn g2 g3 g4 g5 g7 g8 h3 h4 h5 h6 k22 k23 hF hF' ⟨by omega, by omega, by omega, by omega, by omega, by omega⟩ (in_up (in_bump hI (by omega) hr hi) (by omega) hb) (k_hitBumper l hE D cy (w 0) (w 30) F (nI i) hW (oc_i hE hkf h0 h1.1 g2 (g4 kf (by omega)) (fun sz => t_X8_hitBumper l hE D cy hO (w 0) (w 1) (q 0) (w 3) (w 7) (w 2) (w 8) t (s kf) e1 e2 e3 e4 e5 a (cs kf) hB hr i hi kf n hkf hn sa (g3 kf (by omega)) sz) rfl)) h9 hgg
    · have h9 := fun sz : Nat => c_X9_hitBumper_2 l hE D cy (w 20) (w 21) (w 22) (w 23) (w 24) (w 25) (w 26) (w 27) (w 28) (w 29) v1 (nI n) v3 v4 e1 (nI nn) (nI L) v8 v9 v10 v11 (zF a) gb gh (nI i) i (zi_i i) (by omega) (hg0 hr) hd8 sz
      exact opx_of hE hb h0 h20 hx1 hx2 h1 h2 g5 h3 h4 h5 h6 k22 k23 hF hF' ⟨by omega, by omega, by omega, by omega, by omega, by omega⟩ (k_hitBumper_e2 l hE D cy (w 0) (w 30) F (nI i) hW hN hX (rc_x hE h0 h1.1 (fun sz => t_X8_hitBumper_e2 l hE D cy (w 0) (w 1) (q 0) (w 3) (w 7) (w 8) t e1 e2 e3 e4 e5 a hL0 hX (nI i) hj (by rw [h00 hr]; rfl) sz))) h9 (by decide)
  · have h9 := fun sz : Nat => c_X9_hitBumper_1 l hE D cy (w 20) (w 21) (w 22) (w 23) (w 24) (w 25) (w 26) (w 27) (w 28) (w 29) v1 (nI n) v3 v4 e1 (nI nn) (nI L) v8 v9 v10 v11 (zF a) gb gh x hm hd8 sz
    exact opx_of hE hb h0 h20 hx1 hx2 h1 h2 g5 h3 h4 h5 h6 k22 k23 hF hF' ⟨by omega, by omega, by omega, by omega, by omega, by omega⟩ (k_hitBumper_e1 l hE D cy (w 0) (w 30) F x hW hN hX (rc_x hE h0 h1.1 (fun sz => t_X8_hitBumper_e1 l hE D cy (w 0) (w 1) (q 0) (w 3) (w 7) (w 8) t e1 e2 e3 e4 e5 a hL0 hX x hx sz))) h9 (by decide)
set_option maxHeartbeats 400000 in
set_option maxRecDepth 100000 in
theorem s_hitTarget (x : Int32) (hE : zEok E) (hL0 : l.stackTraces = false) (hX : zOutX E) (hN : zOutN E) (hO : zOut E) (hb : b + 12 ≤ 20000) (h : zAll cy ad w t q s b f) : zKI l E D cy yL_hitTarget cL_hitTarget 4 [(0, 9, 12, 24), (0, 9, 15, 13)] yX9_hitTarget cX9_hitTarget 3 (some .int) Int32.toInt64 [.int x] (w 0) (w 20) (w 30) (zWl f zLs) (zPo cy ad w t q s (b + 12)) := by
  obtain ⟨a, n, nn, L, e1, v1, ⟨e2, e3, e4, e5, v3, v4, v8, v9, v10, v11, h0, h20, hx1, hx2⟩, h1, h2, h3, h4, h5, h6, h7, ⟨F, hF⟩, ⟨F', hF'⟩⟩ := h
  have hB := h1.2.2.1
  have hI := h1.2.2
  have hW := hW_of h0 hF'
  obtain ⟨kf, cs, hs, sa, gh, hkf, hn, g2, g3, g4, g5, g6, g7, g8⟩ := id h2
  obtain ⟨gb, ga, k22, k23⟩ := h7
  have h00 : ¬ a 0 = 1 → a 0 = 0 := by have := hB; unfold zBd at this; omega
  have hg1 : a 0 = 1 → zF a 0 = 1 := fun hr => by show nI (a 0) = 1; rw [hr]; rfl
  have hg0 : ¬ a 0 = 1 → ¬ zF a 0 = 1 := fun hr => by show ¬ nI (a 0) = 1; rw [h00 hr]; decide
  have ha2 : a 2 ≤ 4 := by have := hB; unfold zBd at this; omega
  have ha3 : a 3 ≤ 3 := by have := hB; unfold zBd at this; omega
  have ha13 : a 13 ≤ 5 := by have := hB; unfold zBd at this; omega
  have hd8 : zle (nI n) 8 := zle_I hn (by omega)
  have hc3 : zle (zF a 3) 3 := zle_I ha3 (by omega)
  rcases ix_c x (N := 5) (by omega) with ⟨i, hi, rfl⟩ | ⟨hx, hm⟩
  · have hj : ¬ n_X8_isIndex (nI i) 5 = 0 := z_ix 5 (by decide) i hi
    by_cases hr : a 0 = 1
    · obtain ⟨gb', gh', e9, hgg⟩ := mo_ok hn g6 a (mTarg a i).2 gb (mTarg a i).1 (e_targ hB hi)
      have h9 := fun sz : Nat => c_X9_hitTarget_ok l hE D cy (w 20) (w 21) (w 22) (w 23) (w 24) (w 25) (w 26) (w 27) (w 28) (w 29) v1 (nI n) v3 v4 e1 (nI nn) (nI L) v8 v9 v10 v11 (zF a) gb gh (nI i) i (zi_i i) (by omega) (hg1 hr) hc3 hd8 sz
      rw [show n_X9_hitTarget_ok (nI n) (zF a) gb gh i = (nI (mTarg a i).1, 0, nI (min (n + 1) 8), zF (mTarg a i).2, gb', gh') from e9] at h9
      exact op_of hE hb h0 h20 hx1 hx2 h1 hkf hn g2 g3 g4 g5 g7 g8 h3 h4 h5 h6 k22 k23 hF hF' ⟨by omega, by omega, by omega, by omega, by omega, by omega⟩ (in_up (in_targ hI (by omega) hr hi) (by omega) hb) (k_hitTarget l hE D cy (w 0) (w 30) F (nI i) hW (oc_i hE hkf h0 h1.1 g2 (g4 kf (by omega)) (fun sz => t_X8_hitTarget l hE D cy hO (w 0) (w 1) (q 0) (w 3) (w 7) (w 2) (w 8) t (s kf) e1 e2 e3 e4 e5 a (cs kf) hB hr i hi kf n hkf hn sa (g3 kf (by omega)) sz) rfl)) h9 hgg
    · have h9 := fun sz : Nat => c_X9_hitTarget_2 l hE D cy (w 20) (w 21) (w 22) (w 23) (w 24) (w 25) (w 26) (w 27) (w 28) (w 29) v1 (nI n) v3 v4 e1 (nI nn) (nI L) v8 v9 v10 v11 (zF a) gb gh (nI i) i (zi_i i) (by omega) (hg0 hr) hd8 sz
      exact opx_of hE hb h0 h20 hx1 hx2 h1 h2 g5 h3 h4 h5 h6 k22 k23 hF hF' ⟨by omega, by omega, by omega, by omega, by omega, by omega⟩ (k_hitTarget_e2 l hE D cy (w 0) (w 30) F (nI i) hW hN hX (rc_x hE h0 h1.1 (fun sz => t_X8_hitTarget_e2 l hE D cy (w 0) (w 1) (q 0) (w 3) (w 7) (w 8) t e1 e2 e3 e4 e5 a hL0 hX (nI i) hj (by rw [h00 hr]; rfl) sz))) h9 (by decide)
  · have h9 := fun sz : Nat => c_X9_hitTarget_1 l hE D cy (w 20) (w 21) (w 22) (w 23) (w 24) (w 25) (w 26) (w 27) (w 28) (w 29) v1 (nI n) v3 v4 e1 (nI nn) (nI L) v8 v9 v10 v11 (zF a) gb gh x hm hd8 sz
    exact opx_of hE hb h0 h20 hx1 hx2 h1 h2 g5 h3 h4 h5 h6 k22 k23 hF hF' ⟨by omega, by omega, by omega, by omega, by omega, by omega⟩ (k_hitTarget_e1 l hE D cy (w 0) (w 30) F x hW hN hX (rc_x hE h0 h1.1 (fun sz => t_X8_hitTarget_e1 l hE D cy (w 0) (w 1) (q 0) (w 3) (w 7) (w 8) t e1 e2 e3 e4 e5 a hL0 hX x hx sz))) h9 (by decide)
set_option maxHeartbeats 400000 in
set_option maxRecDepth 100000 in
theorem s_nudge (x : Int32) (hE : zEok E) (hL0 : l.stackTraces = false) (hX : zOutX E) (hN : zOutN E) (hO : zOut E) (hb : b + 12 ≤ 20000) (h : zAll cy ad w t q s b f) : zKI l E D cy yL_nudge cL_nudge 4 [(0, 9, 12, 35), (0, 9, 15, 13)] yX9_nudge cX9_nudge 3 (some .int) Int32.toInt64 [.int x] (w 0) (w 20) (w 30) (zWl f zLs) (zPo cy ad w t q s (b + 12)) := by
  obtain ⟨a, n, nn, L, e1, v1, ⟨e2, e3, e4, e5, v3, v4, v8, v9, v10, v11, h0, h20, hx1, hx2⟩, h1, h2, h3, h4, h5, h6, h7, ⟨F, hF⟩, ⟨F', hF'⟩⟩ := h
  have hB := h1.2.2.1
  have hI := h1.2.2
  have hW := hW_of h0 hF'
  obtain ⟨kf, cs, hs, sa, gh, hkf, hn, g2, g3, g4, g5, g6, g7, g8⟩ := id h2
  obtain ⟨gb, ga, k22, k23⟩ := h7
  have h00 : ¬ a 0 = 1 → a 0 = 0 := by have := hB; unfold zBd at this; omega
  have hg1 : a 0 = 1 → zF a 0 = 1 := fun hr => by show nI (a 0) = 1; rw [hr]; rfl
  have hg0 : ¬ a 0 = 1 → ¬ zF a 0 = 1 := fun hr => by show ¬ nI (a 0) = 1; rw [h00 hr]; decide
  have ha2 : a 2 ≤ 4 := by have := hB; unfold zBd at this; omega
  have ha3 : a 3 ≤ 3 := by have := hB; unfold zBd at this; omega
  have ha13 : a 13 ≤ 5 := by have := hB; unfold zBd at this; omega
  have hd8 : zle (nI n) 8 := zle_I hn (by omega)
  have hc3 : zle (zF a 3) 3 := zle_I ha3 (by omega)
  rcases if_c x with ⟨i, hi1, hi3, rfl⟩ | ⟨hx, hm⟩
  · have hj : ¬ n_X8_isForce (nI i) = 0 := by
      obtain rfl | rfl | rfl : i = 1 ∨ i = 2 ∨ i = 3 := by omega
      all_goals decide
    by_cases hr : a 0 = 1
    · obtain ⟨gb', gh', e9, hgg⟩ := mo_ok hn g6 a (mNudge a i).2 gb (mNudge a i).1 (e_nudge hB hi3)
      have h9 := fun sz : Nat => c_X9_nudge_ok l hE D cy (w 20) (w 21) (w 22) (w 23) (w 24) (w 25) (w 26) (w 27) (w 28) (w 29) v1 (nI n) v3 v4 e1 (nI nn) (nI L) v8 v9 v10 v11 (zF a) gb gh (nI i) i (zi_i i) hi3 hi1 (hg1 hr) hd8 sz
      rw [show n_X9_nudge_ok (nI n) (zF a) gb gh (nI i) = (nI (mNudge a i).1, 0, nI (min (n + 1) 8), zF (mNudge a i).2, gb', gh') from e9] at h9
      exact op_of hE hb h0 h20 hx1 hx2 h1 hkf hn g2 g3 g4 g5 g7 g8 h3 h4 h5 h6 k22 k23 hF hF' ⟨by omega, by omega, by omega, by omega, by omega, by omega⟩ (in_up (in_nudge hI (by omega) hr) (by omega) hb) (k_nudge l hE D cy (w 0) (w 30) F (nI i) hW (oc_i hE hkf h0 h1.1 g2 (g4 kf (by omega)) (fun sz => t_X8_nudge l hE D cy hO (w 0) (w 1) (q 0) (w 3) (w 7) (w 2) (w 8) t (s kf) e1 e2 e3 e4 e5 a (cs kf) hB hr i hi1 hi3 kf n hkf hn sa (g3 kf (by omega)) sz) rfl)) h9 hgg
    · have h9 := fun sz : Nat => c_X9_nudge_2 l hE D cy (w 20) (w 21) (w 22) (w 23) (w 24) (w 25) (w 26) (w 27) (w 28) (w 29) v1 (nI n) v3 v4 e1 (nI nn) (nI L) v8 v9 v10 v11 (zF a) gb gh (nI i) i (zi_i i) hi3 hi1 (hg0 hr) hd8 sz
      exact opx_of hE hb h0 h20 hx1 hx2 h1 h2 g5 h3 h4 h5 h6 k22 k23 hF hF' ⟨by omega, by omega, by omega, by omega, by omega, by omega⟩ (k_nudge_e2 l hE D cy (w 0) (w 30) F (nI i) hW hN hX (rc_x hE h0 h1.1 (fun sz => t_X8_nudge_e2 l hE D cy (w 0) (w 1) (q 0) (w 3) (w 7) (w 8) t e1 e2 e3 e4 e5 a hL0 hX (nI i) hj (by rw [h00 hr]; rfl) sz))) h9 (by decide)
  · have h9 := fun sz : Nat => c_X9_nudge_1 l hE D cy (w 20) (w 21) (w 22) (w 23) (w 24) (w 25) (w 26) (w 27) (w 28) (w 29) v1 (nI n) v3 v4 e1 (nI nn) (nI L) v8 v9 v10 v11 (zF a) gb gh x hm hd8 sz
    exact opx_of hE hb h0 h20 hx1 hx2 h1 h2 g5 h3 h4 h5 h6 k22 k23 hF hF' ⟨by omega, by omega, by omega, by omega, by omega, by omega⟩ (k_nudge_e1 l hE D cy (w 0) (w 30) F x hW hN hX (rc_x hE h0 h1.1 (fun sz => t_X8_nudge_e1 l hE D cy (w 0) (w 1) (q 0) (w 3) (w 7) (w 8) t e1 e2 e3 e4 e5 a hL0 hX x hx sz))) h9 (by decide)
set_option maxHeartbeats 400000 in
set_option maxRecDepth 100000 in
theorem s_drain (hE : zEok E) (hL0 : l.stackTraces = false) (hX : zOutX E) (hN : zOutN E) (hO : zOut E) (hb : b + 12 ≤ 20000) (h : zAll cy ad w t q s b f) : zKI l E D cy yL_drain cL_drain 3 [(0, 8, 11, 13)] yX9_drain cX9_drain 1 (some .int) Int32.toInt64 [] (w 0) (w 20) (w 30) (zWl f zLs) (zPo cy ad w t q s (b + 12)) := by
  obtain ⟨a, n, nn, L, e1, v1, ⟨e2, e3, e4, e5, v3, v4, v8, v9, v10, v11, h0, h20, hx1, hx2⟩, h1, h2, h3, h4, h5, h6, h7, ⟨F, hF⟩, ⟨F', hF'⟩⟩ := h
  have hB := h1.2.2.1
  have hI := h1.2.2
  have hW := hW_of h0 hF'
  obtain ⟨kf, cs, hs, sa, gh, hkf, hn, g2, g3, g4, g5, g6, g7, g8⟩ := id h2
  obtain ⟨gb, ga, k22, k23⟩ := h7
  have h00 : ¬ a 0 = 1 → a 0 = 0 := by have := hB; unfold zBd at this; omega
  have hg1 : a 0 = 1 → zF a 0 = 1 := fun hr => by show nI (a 0) = 1; rw [hr]; rfl
  have hg0 : ¬ a 0 = 1 → ¬ zF a 0 = 1 := fun hr => by show ¬ nI (a 0) = 1; rw [h00 hr]; decide
  have ha2 : a 2 ≤ 4 := by have := hB; unfold zBd at this; omega
  have ha3 : a 3 ≤ 3 := by have := hB; unfold zBd at this; omega
  have ha13 : a 13 ≤ 5 := by have := hB; unfold zBd at this; omega
  have hd8 : zle (nI n) 8 := zle_I hn (by omega)
  have hc3 : zle (zF a 3) 3 := zle_I ha3 (by omega)
  by_cases hr : a 0 = 1
  · have hz2 : 1 ≤ zn (zF a 2) := by
      show 1 ≤ zn (nI (a 2))
      rw [zn_I (by omega)]
      have := hB; unfold zBd at this; omega
    obtain ⟨gb', gh', e9, hgg⟩ := mo_ok hn g6 a (mDrain a).2 gb (mDrain a).1 ((in_drain hI (by omega) hr).2)
    have h9 := fun sz : Nat => c_X9_drain_ok l hE D cy (w 20) (w 21) (w 22) (w 23) (w 24) (w 25) (w 26) (w 27) (w 28) (w 29) v1 (nI n) v3 v4 e1 (nI nn) (nI L) v8 v9 v10 v11 (zF a) gb gh (hg1 hr) hc3 (zle_I ha2 (by omega)) hz2 (zle_I ha13 (by omega)) hd8 sz
    rw [show n_X9_drain_ok (nI n) (zF a) gb gh = (nI (mDrain a).1, 0, nI (min (n + 1) 8), zF (mDrain a).2, gb', gh') from e9] at h9
    exact op_of hE hb h0 h20 hx1 hx2 h1 hkf hn g2 g3 g4 g5 g7 g8 h3 h4 h5 h6 k22 k23 hF hF' ⟨by omega, by omega, by omega, by omega, by omega, by omega⟩ (in_up ((in_drain hI (by omega) hr).1) (by omega) hb) (k_drain l hE D cy (w 0) (w 30) F hW (oc_i hE hkf h0 h1.1 g2 (g4 kf (by omega)) (fun sz => t_X8_drain l hE D cy hO (w 0) (w 1) (q 0) (w 3) (w 7) (w 2) (w 8) t (s kf) e1 e2 e3 e4 e5 a (cs kf) hB hI (by omega) hr kf n hkf hn sa (g3 kf (by omega)) sz) rfl)) h9 hgg
  · have h9 := fun sz : Nat => c_X9_drain_1 l hE D cy (w 20) (w 21) (w 22) (w 23) (w 24) (w 25) (w 26) (w 27) (w 28) (w 29) v1 (nI n) v3 v4 e1 (nI nn) (nI L) v8 v9 v10 v11 (zF a) gb gh (hg0 hr) hd8 sz
    exact opx_of hE hb h0 h20 hx1 hx2 h1 h2 g5 h3 h4 h5 h6 k22 k23 hF hF' ⟨by omega, by omega, by omega, by omega, by omega, by omega⟩ (k_drain_e1 l hE D cy (w 0) (w 30) F hW hN hX (rc_x hE h0 h1.1 (fun sz => t_X8_drain_e l hE D cy (w 0) (w 1) (q 0) (w 3) (w 7) (w 8) t e1 e2 e3 e4 e5 a hL0 hX (by rw [h00 hr]; rfl) sz))) h9 (by decide)
set_option maxHeartbeats 400000 in
set_option maxRecDepth 100000 in
theorem s_quitGame (hE : zEok E) (hL0 : l.stackTraces = false) (hX : zOutX E) (hN : zOutN E) (hO : zOut E) (hb : b + 12 ≤ 20000) (h : zAll cy ad w t q s b f) : zKI l E D cy yL_quitGame cL_quitGame 3 [(0, 8, 11, 13)] yX9_quitGame cX9_quitGame 1 (some .int) Int32.toInt64 [] (w 0) (w 20) (w 30) (zWl f zLs) (zPo cy ad w t q s (b + 12)) := by
  obtain ⟨a, n, nn, L, e1, v1, ⟨e2, e3, e4, e5, v3, v4, v8, v9, v10, v11, h0, h20, hx1, hx2⟩, h1, h2, h3, h4, h5, h6, h7, ⟨F, hF⟩, ⟨F', hF'⟩⟩ := h
  have hB := h1.2.2.1
  have hI := h1.2.2
  have hW := hW_of h0 hF'
  obtain ⟨kf, cs, hs, sa, gh, hkf, hn, g2, g3, g4, g5, g6, g7, g8⟩ := id h2
  obtain ⟨gb, ga, k22, k23⟩ := h7
  have h00 : ¬ a 0 = 1 → a 0 = 0 := by have := hB; unfold zBd at this; omega
  have hg1 : a 0 = 1 → zF a 0 = 1 := fun hr => by show nI (a 0) = 1; rw [hr]; rfl
  have hg0 : ¬ a 0 = 1 → ¬ zF a 0 = 1 := fun hr => by show ¬ nI (a 0) = 1; rw [h00 hr]; decide
  have ha2 : a 2 ≤ 4 := by have := hB; unfold zBd at this; omega
  have ha3 : a 3 ≤ 3 := by have := hB; unfold zBd at this; omega
  have ha13 : a 13 ≤ 5 := by have := hB; unfold zBd at this; omega
  have hd8 : zle (nI n) 8 := zle_I hn (by omega)
  have hc3 : zle (zF a 3) 3 := zle_I ha3 (by omega)
  by_cases hr : a 0 = 1
  · obtain ⟨gb', gh', e9, hgg⟩ := mo_ok hn g6 a (um a 0 0) gb (a 3) (e_quits a)
    have h9 := fun sz : Nat => c_X9_quitGame_ok l hE D cy (w 20) (w 21) (w 22) (w 23) (w 24) (w 25) (w 26) (w 27) (w 28) (w 29) v1 (nI n) v3 v4 e1 (nI nn) (nI L) v8 v9 v10 v11 (zF a) gb gh (hg1 hr) hd8 sz
    rw [show n_X9_quitGame_ok (nI n) (zF a) gb gh = (nI (a 3), 0, nI (min (n + 1) 8), zF (um a 0 0), gb', gh') from e9] at h9
    exact op_of hE hb h0 h20 hx1 hx2 h1 hkf hn g2 g3 g4 g5 g7 g8 h3 h4 h5 h6 k22 k23 hF hF' ⟨by omega, by omega, by omega, by omega, by omega, by omega⟩ (in_up (in_quits hI (by omega)) (by omega) hb) (k_quitGame l hE D cy (w 0) (w 30) F hW (oc_i hE hkf h0 h1.1 g2 (g4 kf (by omega)) (fun sz => t_X8_quitGame l hE D cy hO (w 0) (w 1) (q 0) (w 3) (w 7) (w 2) (w 8) t (s kf) e1 e2 e3 e4 e5 a (cs kf) hB hr kf n hkf hn sa (g3 kf (by omega)) sz) rfl)) h9 hgg
  · have h9 := fun sz : Nat => c_X9_quitGame_1 l hE D cy (w 20) (w 21) (w 22) (w 23) (w 24) (w 25) (w 26) (w 27) (w 28) (w 29) v1 (nI n) v3 v4 e1 (nI nn) (nI L) v8 v9 v10 v11 (zF a) gb gh (hg0 hr) hd8 sz
    exact opx_of hE hb h0 h20 hx1 hx2 h1 h2 g5 h3 h4 h5 h6 k22 k23 hF hF' ⟨by omega, by omega, by omega, by omega, by omega, by omega⟩ (k_quitGame_e1 l hE D cy (w 0) (w 30) F hW hN hX (rc_x hE h0 h1.1 (fun sz => t_X8_quitGame_e l hE D cy (w 0) (w 1) (q 0) (w 3) (w 7) (w 8) t e1 e2 e3 e4 e5 a hL0 hX (by rw [h00 hr]; rfl) sz))) h9 (by decide)
set_option maxHeartbeats 400000 in
set_option maxRecDepth 100000 in
theorem s_addPlayer (hE : zEok E) (hL0 : l.stackTraces = false) (hX : zOutX E) (hN : zOutN E) (hO : zOut E) (hb : b + 12 ≤ 20000) (h : zAll cy ad w t q s b f) : zKI l E D cy yL_addPlayer cL_addPlayer 3 [(0, 8, 11, 13)] yX9_addPlayer cX9_addPlayer 1 (some .int) Int32.toInt64 [] (w 0) (w 20) (w 30) (zWl f zLs) (zPo cy ad w t q s (b + 12)) := by
  obtain ⟨a, n, nn, L, e1, v1, ⟨e2, e3, e4, e5, v3, v4, v8, v9, v10, v11, h0, h20, hx1, hx2⟩, h1, h2, h3, h4, h5, h6, h7, ⟨F, hF⟩, ⟨F', hF'⟩⟩ := h
  have hB := h1.2.2.1
  have hI := h1.2.2
  have hW := hW_of h0 hF'
  obtain ⟨kf, cs, hs, sa, gh, hkf, hn, g2, g3, g4, g5, g6, g7, g8⟩ := id h2
  obtain ⟨gb, ga, k22, k23⟩ := h7
  have h00 : ¬ a 0 = 1 → a 0 = 0 := by have := hB; unfold zBd at this; omega
  have hg1 : a 0 = 1 → zF a 0 = 1 := fun hr => by show nI (a 0) = 1; rw [hr]; rfl
  have hg0 : ¬ a 0 = 1 → ¬ zF a 0 = 1 := fun hr => by show ¬ nI (a 0) = 1; rw [h00 hr]; decide
  have ha2 : a 2 ≤ 4 := by have := hB; unfold zBd at this; omega
  have ha3 : a 3 ≤ 3 := by have := hB; unfold zBd at this; omega
  have ha13 : a 13 ≤ 5 := by have := hB; unfold zBd at this; omega
  have hd8 : zle (nI n) 8 := zle_I hn (by omega)
  have hc3 : zle (zF a 3) 3 := zle_I ha3 (by omega)
  by_cases hr : a 0 = 1
  · have hx : n_X6_canAdmit (nI (a 2)) (nI (a 0)) = 0 := by rw [hr]; rfl
    have h9 := fun sz : Nat => c_X9_addPlayer_1 l hE D cy (w 20) (w 21) (w 22) (w 23) (w 24) (w 25) (w 26) (w 27) (w 28) (w 29) v1 (nI n) v3 v4 e1 (nI nn) (nI L) v8 v9 v10 v11 (zF a) gb gh (hg1 hr) hd8 sz
    exact opx_of hE hb h0 h20 hx1 hx2 h1 h2 g5 h3 h4 h5 h6 k22 k23 hF hF' ⟨by omega, by omega, by omega, by omega, by omega, by omega⟩ (k_addPlayer_e1 l hE D cy (w 0) (w 30) F hW hN hX (rc_x hE h0 h1.1 (fun sz => t_X8_addPlayer_e l hE D cy (w 0) (w 1) (q 0) (w 3) (w 7) (w 8) t e1 e2 e3 e4 e5 a hL0 hX hx sz))) h9 (by decide)
  · by_cases h4p : a 2 = 4
    · have hx : n_X6_canAdmit (nI (a 2)) (nI (a 0)) = 0 := by rw [h00 hr, h4p]; rfl
      have hq : zF a 2 = 4 := by show nI (a 2) = 4; rw [h4p]; rfl
      have h9 := fun sz : Nat => c_X9_addPlayer_2 l hE D cy (w 20) (w 21) (w 22) (w 23) (w 24) (w 25) (w 26) (w 27) (w 28) (w 29) v1 (nI n) v3 v4 e1 (nI nn) (nI L) v8 v9 v10 v11 (zF a) gb gh (hg0 hr) hq hd8 sz
      exact opx_of hE hb h0 h20 hx1 hx2 h1 h2 g5 h3 h4 h5 h6 k22 k23 hF hF' ⟨by omega, by omega, by omega, by omega, by omega, by omega⟩ (k_addPlayer_e1 l hE D cy (w 0) (w 30) F hW hN hX (rc_x hE h0 h1.1 (fun sz => t_X8_addPlayer_e l hE D cy (w 0) (w 1) (q 0) (w 3) (w 7) (w 8) t e1 e2 e3 e4 e5 a hL0 hX hx sz))) h9 (by decide)
    · have hq : ¬ zF a 2 = 4 := by
        show ¬ nI (a 2) = nI 4
        rw [nI_eq (by omega) (by omega)]; exact h4p
      obtain ⟨gb', gh', e9, hgg⟩ := mo_ok hn g6 a (mAdds a) gb (a 2) (e_adds hB)
      have h9 := fun sz : Nat => c_X9_addPlayer_ok l hE D cy (w 20) (w 21) (w 22) (w 23) (w 24) (w 25) (w 26) (w 27) (w 28) (w 29) v1 (nI n) v3 v4 e1 (nI nn) (nI L) v8 v9 v10 v11 (zF a) gb gh (hg0 hr) hq (zle_I (by omega) (by omega)) hd8 sz
      rw [show n_X9_addPlayer_ok (nI n) (zF a) gb gh = (nI (a 2), 0, nI (min (n + 1) 8), zF (mAdds a), gb', gh') from e9] at h9
      exact op_of hE hb h0 h20 hx1 hx2 h1 hkf hn g2 g3 g4 g5 g7 g8 h3 h4 h5 h6 k22 k23 hF hF' ⟨by omega, by omega, by omega, by omega, by omega, by omega⟩ (in_up (in_adds hI (by omega) (by omega)) (by omega) hb) (k_addPlayer l hE D cy (w 0) (w 30) F hW (oc_i hE hkf h0 h1.1 g2 (g4 kf (by omega)) (fun sz => t_X8_addPlayer l hE D cy hO (w 0) (w 1) (q 0) (w 3) (w 7) (w 2) (w 8) t (s kf) e1 e2 e3 e4 e5 a (cs kf) hB (h00 hr) (by omega) kf n hkf hn sa (g3 kf (by omega)) sz) rfl)) h9 hgg
set_option maxHeartbeats 400000 in
set_option maxRecDepth 100000 in
theorem s_startGame (hE : zEok E) (hL0 : l.stackTraces = false) (hX : zOutX E) (hN : zOutN E) (hO : zOut E) (hb : b + 12 ≤ 20000) (h : zAll cy ad w t q s b f) : zKI l E D cy yL_startGame cL_startGame 3 [(0, 8, 11, 13), (0, 8, 14, 18)] yX9_startGame cX9_startGame 2 (some .int) Int32.toInt64 [] (w 0) (w 20) (w 30) (zWl f zLs) (zPo cy ad w t q s (b + 12)) := by
  obtain ⟨a, n, nn, L, e1, v1, ⟨e2, e3, e4, e5, v3, v4, v8, v9, v10, v11, h0, h20, hx1, hx2⟩, h1, h2, h3, h4, h5, h6, h7, ⟨F, hF⟩, ⟨F', hF'⟩⟩ := h
  have hB := h1.2.2.1
  have hI := h1.2.2
  have hW := hW_of h0 hF'
  obtain ⟨kf, cs, hs, sa, gh, hkf, hn, g2, g3, g4, g5, g6, g7, g8⟩ := id h2
  obtain ⟨gb, ga, k22, k23⟩ := h7
  have h00 : ¬ a 0 = 1 → a 0 = 0 := by have := hB; unfold zBd at this; omega
  have hg1 : a 0 = 1 → zF a 0 = 1 := fun hr => by show nI (a 0) = 1; rw [hr]; rfl
  have hg0 : ¬ a 0 = 1 → ¬ zF a 0 = 1 := fun hr => by show ¬ nI (a 0) = 1; rw [h00 hr]; decide
  have ha2 : a 2 ≤ 4 := by have := hB; unfold zBd at this; omega
  have ha3 : a 3 ≤ 3 := by have := hB; unfold zBd at this; omega
  have ha13 : a 13 ≤ 5 := by have := hB; unfold zBd at this; omega
  have hd8 : zle (nI n) 8 := zle_I hn (by omega)
  have hc3 : zle (zF a 3) 3 := zle_I ha3 (by omega)
  by_cases hr : a 0 = 1
  · have h9 := fun sz : Nat => c_X9_startGame_1 l hE D cy (w 20) (w 21) (w 22) (w 23) (w 24) (w 25) (w 26) (w 27) (w 28) (w 29) v1 (nI n) v3 v4 e1 (nI nn) (nI L) v8 v9 v10 v11 (zF a) gb gh (hg1 hr) hd8 sz
    exact opx_of hE hb h0 h20 hx1 hx2 h1 h2 g5 h3 h4 h5 h6 k22 k23 hF hF' ⟨by omega, by omega, by omega, by omega, by omega, by omega⟩ (k_startGame_e1 l hE D cy (w 0) (w 30) F hW hN hX (rc_x hE h0 h1.1 (fun sz => t_X8_startGame_e1 l hE D cy (w 0) (w 1) (q 0) (w 3) (w 7) (w 8) t e1 e2 e3 e4 e5 a hL0 hX (by rw [hr]; decide) sz))) h9 (by decide)
  · by_cases h4p : a 2 = 0
    · have hq : zF a 2 = 0 := by show nI (a 2) = 0; rw [h4p]; rfl
      have h9 := fun sz : Nat => c_X9_startGame_2 l hE D cy (w 20) (w 21) (w 22) (w 23) (w 24) (w 25) (w 26) (w 27) (w 28) (w 29) v1 (nI n) v3 v4 e1 (nI nn) (nI L) v8 v9 v10 v11 (zF a) gb gh (hg0 hr) hq hd8 sz
      exact opx_of hE hb h0 h20 hx1 hx2 h1 h2 g5 h3 h4 h5 h6 k22 k23 hF hF' ⟨by omega, by omega, by omega, by omega, by omega, by omega⟩ (k_startGame_e2 l hE D cy (w 0) (w 30) F hW hN hX (rc_x hE h0 h1.1 (fun sz => t_X8_startGame_e2 l hE D cy (w 0) (w 1) (q 0) (w 3) (w 7) (w 8) t e1 e2 e3 e4 e5 a hL0 hX (by rw [h00 hr]; rfl) hq sz))) h9 (by decide)
    · have hq : ¬ zF a 2 = 0 := by
        show ¬ nI (a 2) = nI 0
        rw [nI_eq (by omega) (by omega)]; exact h4p
      obtain ⟨gb', gh', e9, hgg⟩ := mo_ok hn g6 a (mStarts a) gb (a 1 + 1) (e_starts a)
      have h9 := fun sz : Nat => c_X9_startGame_ok l hE D cy (w 20) (w 21) (w 22) (w 23) (w 24) (w 25) (w 26) (w 27) (w 28) (w 29) v1 (nI n) v3 v4 e1 (nI nn) (nI L) v8 v9 v10 v11 (zF a) gb gh (hg0 hr) hq hd8 sz
      rw [show n_X9_startGame_ok (nI n) (zF a) gb gh = (nI (a 1 + 1), 0, nI (min (n + 1) 8), zF (mStarts a), gb', gh') from e9] at h9
      exact op_of hE hb h0 h20 hx1 hx2 h1 hkf hn g2 g3 g4 g5 g7 g8 h3 h4 h5 h6 k22 k23 hF hF' ⟨by omega, by omega, by omega, by omega, by omega, by omega⟩ (in_up (in_starts hI (by omega) (h00 hr) (by omega)) (by omega) hb) (k_startGame l hE D cy (w 0) (w 30) F hW (oc_i hE hkf h0 h1.1 g2 (g4 kf (by omega)) (fun sz => t_X8_startGame l hE D cy hO (w 0) (w 1) (q 0) (w 3) (w 7) (w 2) (w 8) t (s kf) e1 e2 e3 e4 e5 a (cs kf) hB (h00 hr) (by omega) kf n hkf hn sa (g3 kf (by omega)) sz) rfl)) h9 hgg
end SEM
