section SEM
variable {l : Launch} {E : zEn} {D : zG} {cy : Nat → ClassId} {ad w t q : Nat → Nat} {s : Nat → Nat → Nat} {b : Nat} {f : Nat → va_W}
set_option maxHeartbeats 200000 in
set_option maxRecDepth 100000 in
theorem s_isTilted (hE : zEok E) (hL0 : l.stackTraces = false) (hX : zOutX E) (hN : zOutN E) (hO : zOut E) (hb : b + 12 ≤ 20000) (h : zAll cy ad w t q s b f) : zKI l E D cy yL_isTilted cL_isTilted 3 [(0, 15, 18, 13)] yX9_isTilted cX9_isTilted 1 (some .boolean) (fun r => if r = 0 then 0 else 1) [] (w 0) (w 20) (w 30) (zWl f zLs) (zPo cy ad w t q s (b + 12)) := by
  obtain ⟨a, n, nn, L, e1, v1, ⟨e2, e3, e4, e5, v3, v4, v8, v9, v10, v11, h0, h20, hx1, hx2⟩, h1, h2, h3, h4, h5, h6, h7, ⟨F, hF⟩, ⟨F', hF'⟩⟩ := h
  have hB := h1.2.2.1
  have hI := h1.2.2
  have hW := hW_of h0 hF'
  have h00 : ¬ a 0 = 1 → a 0 = 0 := by have := hB; unfold zBd at this; omega
  have hg1 : a 0 = 1 → zF a 0 = 1 := fun hr => by show nI (a 0) = 1; rw [hr]; rfl
  have hg0 : ¬ a 0 = 1 → ¬ zF a 0 = 1 := fun hr => by show ¬ nI (a 0) = 1; rw [h00 hr]; decide
  have ha2 : a 2 ≤ 4 := by have := hB; unfold zBd at this; omega
  have ha13 : a 13 ≤ 5 := by have := hB; unfold zBd at this; omega
  have e : n_X9_isTilted_ok (zF a) = (nI (a 11), 0) := by
    show (if zF a 11 = 1 then ((1 : Int32), (0 : Int32)) else (0, 0)) = (zF a 11, 0)
    rcases zb_11 hB with c | c
    · rw [show zF a 11 = 0 from c]; rfl
    · rw [show zF a 11 = 1 from c]; rfl
  by_cases hr : a 0 = 1
  · have h9 := fun sz : Nat => c_X9_isTilted_ok l hE D cy (w 20) (w 21) (w 22) (w 23) (w 24) (w 25) (w 26) (w 27) (w 28) (w 29) v1 (nI n) v3 v4 e1 (nI nn) (nI L) v8 v9 v10 v11 (zF a) (hg1 hr) sz
    rw [e] at h9
    exact rd_of hE hb h0 h20 hx1 hx2 h1 h2 h3 h4 h5 h6 h7 hF hF' ⟨by omega, by omega, by omega, by omega, by omega, by omega⟩ (k_isTilted l hE D cy (w 0) (w 30) F hW (rc_i hE h0 h1.1 (fun sz => t_X8_isTilted l hE D cy (w 0) (w 1) (q 0) (w 3) (w 7) (w 8) t e1 e2 e3 e4 e5 a hB hr sz))) (rm_21 hE h20 h1.2.1 h9) (fun _ => rfl)
  · have h9 := fun sz : Nat => c_X9_isTilted_1 l hE D cy (w 20) (w 21) (w 22) (w 23) (w 24) (w 25) (w 26) (w 27) (w 28) (w 29) v1 (nI n) v3 v4 e1 (nI nn) (nI L) v8 v9 v10 v11 (zF a) (hg0 hr) sz
    exact rd_of hE hb h0 h20 hx1 hx2 h1 h2 h3 h4 h5 h6 h7 hF hF' ⟨by omega, by omega, by omega, by omega, by omega, by omega⟩ (k_isTilted_e1 l hE D cy (w 0) (w 30) F hW hN hX (rc_x hE h0 h1.1 (fun sz => t_X8_isTilted_e l hE D cy (w 0) (w 1) (q 0) (w 3) (w 7) (w 8) t e1 e2 e3 e4 e5 a hL0 hX (by rw [h00 hr]; rfl) sz))) (rm_21 hE h20 h1.2.1 h9) (fun hk => absurd hk (by decide))
set_option maxHeartbeats 200000 in
set_option maxRecDepth 100000 in
theorem s_wouldBeSaved (hE : zEok E) (hL0 : l.stackTraces = false) (hX : zOutX E) (hN : zOutN E) (hO : zOut E) (hb : b + 12 ≤ 20000) (h : zAll cy ad w t q s b f) : zKI l E D cy yL_wouldBeSaved cL_wouldBeSaved 3 [(0, 15, 18, 13)] yX9_wouldBeSaved cX9_wouldBeSaved 1 (some .boolean) (fun r => if r = 0 then 0 else 1) [] (w 0) (w 20) (w 30) (zWl f zLs) (zPo cy ad w t q s (b + 12)) := by
  obtain ⟨a, n, nn, L, e1, v1, ⟨e2, e3, e4, e5, v3, v4, v8, v9, v10, v11, h0, h20, hx1, hx2⟩, h1, h2, h3, h4, h5, h6, h7, ⟨F, hF⟩, ⟨F', hF'⟩⟩ := h
  have hB := h1.2.2.1
  have hI := h1.2.2
  have hW := hW_of h0 hF'
  have h00 : ¬ a 0 = 1 → a 0 = 0 := by have := hB; unfold zBd at this; omega
  have hg1 : a 0 = 1 → zF a 0 = 1 := fun hr => by show nI (a 0) = 1; rw [hr]; rfl
  have hg0 : ¬ a 0 = 1 → ¬ zF a 0 = 1 := fun hr => by show ¬ nI (a 0) = 1; rw [h00 hr]; decide
  have ha2 : a 2 ≤ 4 := by have := hB; unfold zBd at this; omega
  have ha13 : a 13 ≤ 5 := by have := hB; unfold zBd at this; omega
  obtain ⟨v, e⟩ : ∃ v, n_X9_wouldBeSaved_ok (zF a) = (v, 0) := ⟨_, r_saved (zAg_self a) hB⟩
  by_cases hr : a 0 = 1
  · have h9 := fun sz : Nat => c_X9_wouldBeSaved_ok l hE D cy (w 20) (w 21) (w 22) (w 23) (w 24) (w 25) (w 26) (w 27) (w 28) (w 29) v1 (nI n) v3 v4 e1 (nI nn) (nI L) v8 v9 v10 v11 (zF a) (hg1 hr) sz
    rw [e] at h9
    exact rd_of hE hb h0 h20 hx1 hx2 h1 h2 h3 h4 h5 h6 h7 hF hF' ⟨by omega, by omega, by omega, by omega, by omega, by omega⟩ (k_wouldBeSaved l hE D cy (w 0) (w 30) F hW (rc_i hE h0 h1.1 (fun sz => t_X8_wouldBeSaved l hE D cy (w 0) (w 1) (q 0) (w 3) (w 7) (w 8) t e1 e2 e3 e4 e5 a hB hr sz))) (rm_21 hE h20 h1.2.1 h9) (fun _ => by rw [e]; rfl)
  · have h9 := fun sz : Nat => c_X9_wouldBeSaved_1 l hE D cy (w 20) (w 21) (w 22) (w 23) (w 24) (w 25) (w 26) (w 27) (w 28) (w 29) v1 (nI n) v3 v4 e1 (nI nn) (nI L) v8 v9 v10 v11 (zF a) (hg0 hr) sz
    rw [show n_X9_wouldBeSaved_1 (zF a) = 1 from ite_self _] at h9
    exact rd_of hE hb h0 h20 hx1 hx2 h1 h2 h3 h4 h5 h6 h7 hF hF' ⟨by omega, by omega, by omega, by omega, by omega, by omega⟩ (k_wouldBeSaved_e1 l hE D cy (w 0) (w 30) F hW hN hX (rc_x hE h0 h1.1 (fun sz => t_X8_wouldBeSaved_e l hE D cy (w 0) (w 1) (q 0) (w 3) (w 7) (w 8) t e1 e2 e3 e4 e5 a hL0 hX (by rw [h00 hr]; rfl) sz))) (rm_21 hE h20 h1.2.1 h9) (fun hk => absurd hk (by decide))
set_option maxHeartbeats 200000 in
set_option maxRecDepth 100000 in
theorem s_bonusIfDrained (hE : zEok E) (hL0 : l.stackTraces = false) (hX : zOutX E) (hN : zOutN E) (hO : zOut E) (hb : b + 12 ≤ 20000) (h : zAll cy ad w t q s b f) : zKI l E D cy yL_bonusIfDrained cL_bonusIfDrained 3 [(0, 8, 11, 13)] yX9_bonusIfDrained cX9_bonusIfDrained 1 (some .int) Int32.toInt64 [] (w 0) (w 20) (w 30) (zWl f zLs) (zPo cy ad w t q s (b + 12)) := by
  obtain ⟨a, n, nn, L, e1, v1, ⟨e2, e3, e4, e5, v3, v4, v8, v9, v10, v11, h0, h20, hx1, hx2⟩, h1, h2, h3, h4, h5, h6, h7, ⟨F, hF⟩, ⟨F', hF'⟩⟩ := h
  have hB := h1.2.2.1
  have hI := h1.2.2
  have hW := hW_of h0 hF'
  have h00 : ¬ a 0 = 1 → a 0 = 0 := by have := hB; unfold zBd at this; omega
  have hg1 : a 0 = 1 → zF a 0 = 1 := fun hr => by show nI (a 0) = 1; rw [hr]; rfl
  have hg0 : ¬ a 0 = 1 → ¬ zF a 0 = 1 := fun hr => by show ¬ nI (a 0) = 1; rw [h00 hr]; decide
  have ha2 : a 2 ≤ 4 := by have := hB; unfold zBd at this; omega
  have ha13 : a 13 ≤ 5 := by have := hB; unfold zBd at this; omega
  by_cases hr : a 0 = 1
  · obtain ⟨v, e⟩ : ∃ v, n_X9_bonusIfDrained_ok (zF a) = (v, 0) := ⟨_, r_bonus (zAg_self a) hB hr⟩
    have h9 := fun sz : Nat => c_X9_bonusIfDrained_ok l hE D cy (w 20) (w 21) (w 22) (w 23) (w 24) (w 25) (w 26) (w 27) (w 28) (w 29) v1 (nI n) v3 v4 e1 (nI nn) (nI L) v8 v9 v10 v11 (zF a) (hg1 hr) sz
    rw [e] at h9
    exact rd_of hE hb h0 h20 hx1 hx2 h1 h2 h3 h4 h5 h6 h7 hF hF' ⟨by omega, by omega, by omega, by omega, by omega, by omega⟩ (k_bonusIfDrained l hE D cy (w 0) (w 30) F hW (rc_i hE h0 h1.1 (fun sz => t_X8_bonusIfDrained l hE D cy (w 0) (w 1) (q 0) (w 3) (w 7) (w 8) t e1 e2 e3 e4 e5 a hB hr sz))) (rm_21 hE h20 h1.2.1 h9) (fun _ => by rw [e]; rfl)
  · have h9 := fun sz : Nat => c_X9_bonusIfDrained_1 l hE D cy (w 20) (w 21) (w 22) (w 23) (w 24) (w 25) (w 26) (w 27) (w 28) (w 29) v1 (nI n) v3 v4 e1 (nI nn) (nI L) v8 v9 v10 v11 (zF a) (hg0 hr) sz
    rw [show n_X9_bonusIfDrained_1 (zF a) = 1 by show (if n_X9_isTilt (zF a) = 0 then (if n_X9_isSaver (zF a) = 0 then (1 : Int32) else 1) else 1) = 1; rw [ite_self, ite_self]] at h9
    exact rd_of hE hb h0 h20 hx1 hx2 h1 h2 h3 h4 h5 h6 h7 hF hF' ⟨by omega, by omega, by omega, by omega, by omega, by omega⟩ (k_bonusIfDrained_e1 l hE D cy (w 0) (w 30) F hW hN hX (rc_x hE h0 h1.1 (fun sz => t_X8_bonusIfDrained_e l hE D cy (w 0) (w 1) (q 0) (w 3) (w 7) (w 8) t e1 e2 e3 e4 e5 a hL0 hX (by rw [h00 hr]; rfl) sz))) (rm_21 hE h20 h1.2.1 h9) (fun hk => absurd hk (by decide))
set_option maxHeartbeats 200000 in
set_option maxRecDepth 100000 in
theorem s_laneRunByCounting (hE : zEok E) (hL0 : l.stackTraces = false) (hX : zOutX E) (hN : zOutN E) (hO : zOut E) (hb : b + 12 ≤ 20000) (h : zAll cy ad w t q s b f) : zKI l E D cy yL_laneRunByCounting cL_laneRunByCounting 3 [(0, 8, 11, 13)] yX9_laneRunByCounting cX9_laneRunByCounting 1 (some .int) Int32.toInt64 [] (w 0) (w 20) (w 30) (zWl f zLs) (zPo cy ad w t q s (b + 12)) := by
  obtain ⟨a, n, nn, L, e1, v1, ⟨e2, e3, e4, e5, v3, v4, v8, v9, v10, v11, h0, h20, hx1, hx2⟩, h1, h2, h3, h4, h5, h6, h7, ⟨F, hF⟩, ⟨F', hF'⟩⟩ := h
  have hB := h1.2.2.1
  have hI := h1.2.2
  have hW := hW_of h0 hF'
  have h00 : ¬ a 0 = 1 → a 0 = 0 := by have := hB; unfold zBd at this; omega
  have hg1 : a 0 = 1 → zF a 0 = 1 := fun hr => by show nI (a 0) = 1; rw [hr]; rfl
  have hg0 : ¬ a 0 = 1 → ¬ zF a 0 = 1 := fun hr => by show ¬ nI (a 0) = 1; rw [h00 hr]; decide
  have ha2 : a 2 ≤ 4 := by have := hB; unfold zBd at this; omega
  have ha13 : a 13 ≤ 5 := by have := hB; unfold zBd at this; omega
  have e : n_X9_laneRunByCounting_ok (zF a) = (nI (mLanes a), 0) := by
    show (n_X9_lanes (zF a), (0 : Int32)) = _
    rw [e_lanes hB]
  by_cases hr : a 0 = 1
  · have h9 := fun sz : Nat => c_X9_laneRunByCounting_ok l hE D cy (w 20) (w 21) (w 22) (w 23) (w 24) (w 25) (w 26) (w 27) (w 28) (w 29) v1 (nI n) v3 v4 e1 (nI nn) (nI L) v8 v9 v10 v11 (zF a) (hg1 hr) sz
    rw [e] at h9
    exact rd_of hE hb h0 h20 hx1 hx2 h1 h2 h3 h4 h5 h6 h7 hF hF' ⟨by omega, by omega, by omega, by omega, by omega, by omega⟩ (k_laneRunByCounting l hE D cy (w 0) (w 30) F hW (rc_i hE h0 h1.1 (fun sz => t_X8_laneRunByCounting l hE D cy (w 0) (w 1) (q 0) (w 3) (w 7) (w 8) t e1 e2 e3 e4 e5 a hB hr sz))) (rm_21 hE h20 h1.2.1 h9) (fun _ => rfl)
  · have h9 := fun sz : Nat => c_X9_laneRunByCounting_1 l hE D cy (w 20) (w 21) (w 22) (w 23) (w 24) (w 25) (w 26) (w 27) (w 28) (w 29) v1 (nI n) v3 v4 e1 (nI nn) (nI L) v8 v9 v10 v11 (zF a) (hg0 hr) sz
    exact rd_of hE hb h0 h20 hx1 hx2 h1 h2 h3 h4 h5 h6 h7 hF hF' ⟨by omega, by omega, by omega, by omega, by omega, by omega⟩ (k_laneRunByCounting_e1 l hE D cy (w 0) (w 30) F hW hN hX (rc_x hE h0 h1.1 (fun sz => t_X8_laneRunByCounting_e l hE D cy (w 0) (w 1) (q 0) (w 3) (w 7) (w 8) t e1 e2 e3 e4 e5 a hL0 hX (by rw [h00 hr]; rfl) sz))) (rm_21 hE h20 h1.2.1 h9) (fun hk => absurd hk (by decide))
set_option maxHeartbeats 200000 in
set_option maxRecDepth 100000 in
theorem s_score (x : Int32) (hE : zEok E) (hL0 : l.stackTraces = false) (hX : zOutX E) (hN : zOutN E) (hO : zOut E) (hb : b + 12 ≤ 20000) (h : zAll cy ad w t q s b f) : zKI l E D cy yL_score cL_score 4 [(0, 9, 12, 24)] yX9_score cX9_score 2 (some .int) Int32.toInt64 [.int x] (w 0) (w 20) (w 30) (zWl f zLs) (zPo cy ad w t q s (b + 12)) := by
  obtain ⟨a, n, nn, L, e1, v1, ⟨e2, e3, e4, e5, v3, v4, v8, v9, v10, v11, h0, h20, hx1, hx2⟩, h1, h2, h3, h4, h5, h6, h7, ⟨F, hF⟩, ⟨F', hF'⟩⟩ := h
  have hB := h1.2.2.1
  have hI := h1.2.2
  have hW := hW_of h0 hF'
  have h00 : ¬ a 0 = 1 → a 0 = 0 := by have := hB; unfold zBd at this; omega
  have hg1 : a 0 = 1 → zF a 0 = 1 := fun hr => by show nI (a 0) = 1; rw [hr]; rfl
  have hg0 : ¬ a 0 = 1 → ¬ zF a 0 = 1 := fun hr => by show ¬ nI (a 0) = 1; rw [h00 hr]; decide
  have ha2 : a 2 ≤ 4 := by have := hB; unfold zBd at this; omega
  have ha13 : a 13 ≤ 5 := by have := hB; unfold zBd at this; omega
  rcases ix_c x (N := a 2) (by omega) with ⟨i, hi, rfl⟩ | ⟨hx, hm⟩
  · have h9 := fun sz : Nat => c_X9_score_ok l hE D cy (w 20) (w 21) (w 22) (w 23) (w 24) (w 25) (w 26) (w 27) (w 28) (w 29) v1 (nI n) v3 v4 e1 (nI nn) (nI L) v8 v9 v10 v11 (zF a) (nI i) i (zi_i i) (by show i < zn (nI (a 2)); rw [zn_I (by omega)]; exact hi) (zle_I ha2 (by omega)) sz
    exact rd_of hE hb h0 h20 hx1 hx2 h1 h2 h3 h4 h5 h6 h7 hF hF' ⟨by omega, by omega, by omega, by omega, by omega, by omega⟩ (k_score l hE D cy (w 0) (w 30) F (nI i) hW (rc_i hE h0 h1.1 (fun sz => t_X8_score l hE D cy (w 0) (w 1) (q 0) (w 3) (w 7) (w 8) t e1 e2 e3 e4 e5 a hB i hi sz))) (rm_21 hE h20 h1.2.1 h9) (fun _ => rfl)
  · have h9 := fun sz : Nat => c_X9_score_1 l hE D cy (w 20) (w 21) (w 22) (w 23) (w 24) (w 25) (w 26) (w 27) (w 28) (w 29) v1 (nI n) v3 v4 e1 (nI nn) (nI L) v8 v9 v10 v11 (zF a) x hm sz
    exact rd_of hE hb h0 h20 hx1 hx2 h1 h2 h3 h4 h5 h6 h7 hF hF' ⟨by omega, by omega, by omega, by omega, by omega, by omega⟩ (k_score_e1 l hE D cy (w 0) (w 30) F x hW hN hX (rc_x hE h0 h1.1 (fun sz => t_X8_score_e l hE D cy (w 0) (w 1) (q 0) (w 3) (w 7) (w 8) t e1 e2 e3 e4 e5 a hL0 hX x hx sz))) (rm_21 hE h20 h1.2.1 h9) (fun hk => absurd hk (by decide))
set_option maxHeartbeats 200000 in
set_option maxRecDepth 100000 in
theorem s_extraBalls (x : Int32) (hE : zEok E) (hL0 : l.stackTraces = false) (hX : zOutX E) (hN : zOutN E) (hO : zOut E) (hb : b + 12 ≤ 20000) (h : zAll cy ad w t q s b f) : zKI l E D cy yL_extraBalls cL_extraBalls 4 [(0, 9, 12, 24)] yX9_extraBalls cX9_extraBalls 2 (some .int) Int32.toInt64 [.int x] (w 0) (w 20) (w 30) (zWl f zLs) (zPo cy ad w t q s (b + 12)) := by
  obtain ⟨a, n, nn, L, e1, v1, ⟨e2, e3, e4, e5, v3, v4, v8, v9, v10, v11, h0, h20, hx1, hx2⟩, h1, h2, h3, h4, h5, h6, h7, ⟨F, hF⟩, ⟨F', hF'⟩⟩ := h
  have hB := h1.2.2.1
  have hI := h1.2.2
  have hW := hW_of h0 hF'
  have h00 : ¬ a 0 = 1 → a 0 = 0 := by have := hB; unfold zBd at this; omega
  have hg1 : a 0 = 1 → zF a 0 = 1 := fun hr => by show nI (a 0) = 1; rw [hr]; rfl
  have hg0 : ¬ a 0 = 1 → ¬ zF a 0 = 1 := fun hr => by show ¬ nI (a 0) = 1; rw [h00 hr]; decide
  have ha2 : a 2 ≤ 4 := by have := hB; unfold zBd at this; omega
  have ha13 : a 13 ≤ 5 := by have := hB; unfold zBd at this; omega
  rcases ix_c x (N := a 2) (by omega) with ⟨i, hi, rfl⟩ | ⟨hx, hm⟩
  · have h9 := fun sz : Nat => c_X9_extraBalls_ok l hE D cy (w 20) (w 21) (w 22) (w 23) (w 24) (w 25) (w 26) (w 27) (w 28) (w 29) v1 (nI n) v3 v4 e1 (nI nn) (nI L) v8 v9 v10 v11 (zF a) (nI i) i (zi_i i) (by show i < zn (nI (a 2)); rw [zn_I (by omega)]; exact hi) (zle_I ha2 (by omega)) sz
    exact rd_of hE hb h0 h20 hx1 hx2 h1 h2 h3 h4 h5 h6 h7 hF hF' ⟨by omega, by omega, by omega, by omega, by omega, by omega⟩ (k_extraBalls l hE D cy (w 0) (w 30) F (nI i) hW (rc_i hE h0 h1.1 (fun sz => t_X8_extraBalls l hE D cy (w 0) (w 1) (q 0) (w 3) (w 7) (w 8) t e1 e2 e3 e4 e5 a hB i hi sz))) (rm_21 hE h20 h1.2.1 h9) (fun _ => rfl)
  · have h9 := fun sz : Nat => c_X9_extraBalls_1 l hE D cy (w 20) (w 21) (w 22) (w 23) (w 24) (w 25) (w 26) (w 27) (w 28) (w 29) v1 (nI n) v3 v4 e1 (nI nn) (nI L) v8 v9 v10 v11 (zF a) x hm sz
    exact rd_of hE hb h0 h20 hx1 hx2 h1 h2 h3 h4 h5 h6 h7 hF hF' ⟨by omega, by omega, by omega, by omega, by omega, by omega⟩ (k_extraBalls_e1 l hE D cy (w 0) (w 30) F x hW hN hX (rc_x hE h0 h1.1 (fun sz => t_X8_extraBalls_e l hE D cy (w 0) (w 1) (q 0) (w 3) (w 7) (w 8) t e1 e2 e3 e4 e5 a hL0 hX x hx sz))) (rm_21 hE h20 h1.2.1 h9) (fun hk => absurd hk (by decide))
set_option maxHeartbeats 200000 in
set_option maxRecDepth 100000 in
theorem s_recordScore (x : Int32) (hE : zEok E) (hL0 : l.stackTraces = false) (hX : zOutX E) (hN : zOutN E) (hO : zOut E) (hb : b + 12 ≤ 20000) (h : zAll cy ad w t q s b f) : zKI l E D cy yL_recordScore cL_recordScore 4 [(0, 9, 12, 18)] yX9_recordScore cX9_recordScore 2 (some .int) Int32.toInt64 [.int x] (w 0) (w 20) (w 30) (zWl f zLs) (zPo cy ad w t q s (b + 12)) := by
  obtain ⟨a, n, nn, L, e1, v1, ⟨e2, e3, e4, e5, v3, v4, v8, v9, v10, v11, h0, h20, hx1, hx2⟩, h1, h2, h3, h4, h5, h6, h7, ⟨F, hF⟩, ⟨F', hF'⟩⟩ := h
  have hB := h1.2.2.1
  have hI := h1.2.2
  have hW := hW_of h0 hF'
  have h00 : ¬ a 0 = 1 → a 0 = 0 := by have := hB; unfold zBd at this; omega
  have hg1 : a 0 = 1 → zF a 0 = 1 := fun hr => by show nI (a 0) = 1; rw [hr]; rfl
  have hg0 : ¬ a 0 = 1 → ¬ zF a 0 = 1 := fun hr => by show ¬ nI (a 0) = 1; rw [h00 hr]; decide
  have ha2 : a 2 ≤ 4 := by have := hB; unfold zBd at this; omega
  have ha13 : a 13 ≤ 5 := by have := hB; unfold zBd at this; omega
  rcases ix_c x (N := a 13) (by omega) with ⟨i, hi, rfl⟩ | ⟨hx, hm⟩
  · have h9 := fun sz : Nat => c_X9_recordScore_ok l hE D cy (w 20) (w 21) (w 22) (w 23) (w 24) (w 25) (w 26) (w 27) (w 28) (w 29) v1 (nI n) v3 v4 e1 (nI nn) (nI L) v8 v9 v10 v11 (zF a) (nI i) i (zi_i i) (by show i < zn (nI (a 13)); rw [zn_I (by omega)]; exact hi) (zle_I ha13 (by omega)) sz
    exact rd_of hE hb h0 h20 hx1 hx2 h1 h2 h3 h4 h5 h6 h7 hF hF' ⟨by omega, by omega, by omega, by omega, by omega, by omega⟩ (k_recordScore l hE D cy (w 0) (w 30) F (nI i) hW (rc_i hE h0 h1.1 (fun sz => t_X8_recordScore l hE D cy (w 0) (w 1) (q 0) (w 3) (w 7) (w 8) t e1 e2 e3 e4 e5 a hB i hi sz))) (rm_21 hE h20 h1.2.1 h9) (fun _ => rfl)
  · have h9 := fun sz : Nat => c_X9_recordScore_1 l hE D cy (w 20) (w 21) (w 22) (w 23) (w 24) (w 25) (w 26) (w 27) (w 28) (w 29) v1 (nI n) v3 v4 e1 (nI nn) (nI L) v8 v9 v10 v11 (zF a) x hm sz
    exact rd_of hE hb h0 h20 hx1 hx2 h1 h2 h3 h4 h5 h6 h7 hF hF' ⟨by omega, by omega, by omega, by omega, by omega, by omega⟩ (k_recordScore_e1 l hE D cy (w 0) (w 30) F x hW hN hX (rc_x hE h0 h1.1 (fun sz => t_X8_recordScore_e l hE D cy (w 0) (w 1) (q 0) (w 3) (w 7) (w 8) t e1 e2 e3 e4 e5 a hL0 hX x hx sz))) (rm_21 hE h20 h1.2.1 h9) (fun hk => absurd hk (by decide))
set_option maxHeartbeats 200000 in
set_option maxRecDepth 100000 in
theorem s_recordPlayer (x : Int32) (hE : zEok E) (hL0 : l.stackTraces = false) (hX : zOutX E) (hN : zOutN E) (hO : zOut E) (hb : b + 12 ≤ 20000) (h : zAll cy ad w t q s b f) : zKI l E D cy yL_recordPlayer cL_recordPlayer 4 [(0, 9, 12, 18)] yX9_recordPlayer cX9_recordPlayer 2 (some .int) Int32.toInt64 [.int x] (w 0) (w 20) (w 30) (zWl f zLs) (zPo cy ad w t q s (b + 12)) := by
  obtain ⟨a, n, nn, L, e1, v1, ⟨e2, e3, e4, e5, v3, v4, v8, v9, v10, v11, h0, h20, hx1, hx2⟩, h1, h2, h3, h4, h5, h6, h7, ⟨F, hF⟩, ⟨F', hF'⟩⟩ := h
  have hB := h1.2.2.1
  have hI := h1.2.2
  have hW := hW_of h0 hF'
  have h00 : ¬ a 0 = 1 → a 0 = 0 := by have := hB; unfold zBd at this; omega
  have hg1 : a 0 = 1 → zF a 0 = 1 := fun hr => by show nI (a 0) = 1; rw [hr]; rfl
  have hg0 : ¬ a 0 = 1 → ¬ zF a 0 = 1 := fun hr => by show ¬ nI (a 0) = 1; rw [h00 hr]; decide
  have ha2 : a 2 ≤ 4 := by have := hB; unfold zBd at this; omega
  have ha13 : a 13 ≤ 5 := by have := hB; unfold zBd at this; omega
  rcases ix_c x (N := a 13) (by omega) with ⟨i, hi, rfl⟩ | ⟨hx, hm⟩
  · have h9 := fun sz : Nat => c_X9_recordPlayer_ok l hE D cy (w 20) (w 21) (w 22) (w 23) (w 24) (w 25) (w 26) (w 27) (w 28) (w 29) v1 (nI n) v3 v4 e1 (nI nn) (nI L) v8 v9 v10 v11 (zF a) (nI i) i (zi_i i) (by show i < zn (nI (a 13)); rw [zn_I (by omega)]; exact hi) (zle_I ha13 (by omega)) sz
    exact rd_of hE hb h0 h20 hx1 hx2 h1 h2 h3 h4 h5 h6 h7 hF hF' ⟨by omega, by omega, by omega, by omega, by omega, by omega⟩ (k_recordPlayer l hE D cy (w 0) (w 30) F (nI i) hW (rc_i hE h0 h1.1 (fun sz => t_X8_recordPlayer l hE D cy (w 0) (w 1) (q 0) (w 3) (w 7) (w 8) t e1 e2 e3 e4 e5 a hB i hi sz))) (rm_21 hE h20 h1.2.1 h9) (fun _ => rfl)
  · have h9 := fun sz : Nat => c_X9_recordPlayer_1 l hE D cy (w 20) (w 21) (w 22) (w 23) (w 24) (w 25) (w 26) (w 27) (w 28) (w 29) v1 (nI n) v3 v4 e1 (nI nn) (nI L) v8 v9 v10 v11 (zF a) x hm sz
    exact rd_of hE hb h0 h20 hx1 hx2 h1 h2 h3 h4 h5 h6 h7 hF hF' ⟨by omega, by omega, by omega, by omega, by omega, by omega⟩ (k_recordPlayer_e1 l hE D cy (w 0) (w 30) F x hW hN hX (rc_x hE h0 h1.1 (fun sz => t_X8_recordPlayer_e l hE D cy (w 0) (w 1) (q 0) (w 3) (w 7) (w 8) t e1 e2 e3 e4 e5 a hL0 hX x hx sz))) (rm_21 hE h20 h1.2.1 h9) (fun hk => absurd hk (by decide))
set_option maxHeartbeats 200000 in
set_option maxRecDepth 100000 in
theorem s_recordGame (x : Int32) (hE : zEok E) (hL0 : l.stackTraces = false) (hX : zOutX E) (hN : zOutN E) (hO : zOut E) (hb : b + 12 ≤ 20000) (h : zAll cy ad w t q s b f) : zKI l E D cy yL_recordGame cL_recordGame 4 [(0, 9, 12, 18)] yX9_recordGame cX9_recordGame 2 (some .int) Int32.toInt64 [.int x] (w 0) (w 20) (w 30) (zWl f zLs) (zPo cy ad w t q s (b + 12)) := by
  obtain ⟨a, n, nn, L, e1, v1, ⟨e2, e3, e4, e5, v3, v4, v8, v9, v10, v11, h0, h20, hx1, hx2⟩, h1, h2, h3, h4, h5, h6, h7, ⟨F, hF⟩, ⟨F', hF'⟩⟩ := h
  have hB := h1.2.2.1
  have hI := h1.2.2
  have hW := hW_of h0 hF'
  have h00 : ¬ a 0 = 1 → a 0 = 0 := by have := hB; unfold zBd at this; omega
  have hg1 : a 0 = 1 → zF a 0 = 1 := fun hr => by show nI (a 0) = 1; rw [hr]; rfl
  have hg0 : ¬ a 0 = 1 → ¬ zF a 0 = 1 := fun hr => by show ¬ nI (a 0) = 1; rw [h00 hr]; decide
  have ha2 : a 2 ≤ 4 := by have := hB; unfold zBd at this; omega
  have ha13 : a 13 ≤ 5 := by have := hB; unfold zBd at this; omega
  rcases ix_c x (N := a 13) (by omega) with ⟨i, hi, rfl⟩ | ⟨hx, hm⟩
  · have h9 := fun sz : Nat => c_X9_recordGame_ok l hE D cy (w 20) (w 21) (w 22) (w 23) (w 24) (w 25) (w 26) (w 27) (w 28) (w 29) v1 (nI n) v3 v4 e1 (nI nn) (nI L) v8 v9 v10 v11 (zF a) (nI i) i (zi_i i) (by show i < zn (nI (a 13)); rw [zn_I (by omega)]; exact hi) (zle_I ha13 (by omega)) sz
    exact rd_of hE hb h0 h20 hx1 hx2 h1 h2 h3 h4 h5 h6 h7 hF hF' ⟨by omega, by omega, by omega, by omega, by omega, by omega⟩ (k_recordGame l hE D cy (w 0) (w 30) F (nI i) hW (rc_i hE h0 h1.1 (fun sz => t_X8_recordGame l hE D cy (w 0) (w 1) (q 0) (w 3) (w 7) (w 8) t e1 e2 e3 e4 e5 a hB i hi sz))) (rm_21 hE h20 h1.2.1 h9) (fun _ => rfl)
  · have h9 := fun sz : Nat => c_X9_recordGame_1 l hE D cy (w 20) (w 21) (w 22) (w 23) (w 24) (w 25) (w 26) (w 27) (w 28) (w 29) v1 (nI n) v3 v4 e1 (nI nn) (nI L) v8 v9 v10 v11 (zF a) x hm sz
    exact rd_of hE hb h0 h20 hx1 hx2 h1 h2 h3 h4 h5 h6 h7 hF hF' ⟨by omega, by omega, by omega, by omega, by omega, by omega⟩ (k_recordGame_e1 l hE D cy (w 0) (w 30) F x hW hN hX (rc_x hE h0 h1.1 (fun sz => t_X8_recordGame_e l hE D cy (w 0) (w 1) (q 0) (w 3) (w 7) (w 8) t e1 e2 e3 e4 e5 a hL0 hX x hx sz))) (rm_21 hE h20 h1.2.1 h9) (fun hk => absurd hk (by decide))
set_option maxHeartbeats 200000 in
set_option maxRecDepth 100000 in
theorem s_isLit (x : Int32) (hE : zEok E) (hL0 : l.stackTraces = false) (hX : zOutX E) (hN : zOutN E) (hO : zOut E) (hb : b + 12 ≤ 20000) (h : zAll cy ad w t q s b f) : zKI l E D cy yL_isLit cL_isLit 4 [(0, 16, 19, 24), (0, 16, 22, 13)] yX9_isLit cX9_isLit 2 (some .boolean) (fun r => if r = 0 then 0 else 1) [.int x] (w 0) (w 20) (w 30) (zWl f zLs) (zPo cy ad w t q s (b + 12)) := by
  obtain ⟨a, n, nn, L, e1, v1, ⟨e2, e3, e4, e5, v3, v4, v8, v9, v10, v11, h0, h20, hx1, hx2⟩, h1, h2, h3, h4, h5, h6, h7, ⟨F, hF⟩, ⟨F', hF'⟩⟩ := h
  have hB := h1.2.2.1
  have hI := h1.2.2
  have hW := hW_of h0 hF'
  have h00 : ¬ a 0 = 1 → a 0 = 0 := by have := hB; unfold zBd at this; omega
  have hg1 : a 0 = 1 → zF a 0 = 1 := fun hr => by show nI (a 0) = 1; rw [hr]; rfl
  have hg0 : ¬ a 0 = 1 → ¬ zF a 0 = 1 := fun hr => by show ¬ nI (a 0) = 1; rw [h00 hr]; decide
  have ha2 : a 2 ≤ 4 := by have := hB; unfold zBd at this; omega
  have ha13 : a 13 ≤ 5 := by have := hB; unfold zBd at this; omega
  rcases ix_c x (N := 4) (by omega) with ⟨i, hi, rfl⟩ | ⟨hx, hm⟩
  · have e : n_X9_isLit_ok (zF a) i = (nI (a (16 + i)), 0) := by
      show (if zF a (16 + i) = 1 then ((1 : Int32), (0 : Int32)) else (0, 0)) = (zF a (16 + i), 0)
      rcases zb_l hB i hi with c | c
      · rw [show zF a (16 + i) = 0 from c]; rfl
      · rw [show zF a (16 + i) = 1 from c]; rfl
    have hj : ¬ n_X8_isIndex (nI i) 4 = 0 := z_ix 4 (by decide) i hi
    by_cases hr : a 0 = 1
    · have h9 := fun sz : Nat => c_X9_isLit_ok l hE D cy (w 20) (w 21) (w 22) (w 23) (w 24) (w 25) (w 26) (w 27) (w 28) (w 29) v1 (nI n) v3 v4 e1 (nI nn) (nI L) v8 v9 v10 v11 (zF a) (nI i) i (zi_i i) (by omega) (hg1 hr) sz
      rw [e] at h9
      exact rd_of hE hb h0 h20 hx1 hx2 h1 h2 h3 h4 h5 h6 h7 hF hF' ⟨by omega, by omega, by omega, by omega, by omega, by omega⟩ (k_isLit l hE D cy (w 0) (w 30) F (nI i) hW (rc_i hE h0 h1.1 (fun sz => t_X8_isLit l hE D cy (w 0) (w 1) (q 0) (w 3) (w 7) (w 8) t e1 e2 e3 e4 e5 a hB hr i hi sz))) (rm_21 hE h20 h1.2.1 h9) (fun _ => rfl)
    · have h9 := fun sz : Nat => c_X9_isLit_2 l hE D cy (w 20) (w 21) (w 22) (w 23) (w 24) (w 25) (w 26) (w 27) (w 28) (w 29) v1 (nI n) v3 v4 e1 (nI nn) (nI L) v8 v9 v10 v11 (zF a) (nI i) i (zi_i i) (by omega) (hg0 hr) sz
      exact rd_of hE hb h0 h20 hx1 hx2 h1 h2 h3 h4 h5 h6 h7 hF hF' ⟨by omega, by omega, by omega, by omega, by omega, by omega⟩ (k_isLit_e2 l hE D cy (w 0) (w 30) F (nI i) hW hN hX (rc_x hE h0 h1.1 (fun sz => t_X8_isLit_e2 l hE D cy (w 0) (w 1) (q 0) (w 3) (w 7) (w 8) t e1 e2 e3 e4 e5 a hL0 hX (nI i) hj (by rw [h00 hr]; rfl) sz))) (rm_21 hE h20 h1.2.1 h9) (fun hk => absurd hk (by decide))
  · have h9 := fun sz : Nat => c_X9_isLit_1 l hE D cy (w 20) (w 21) (w 22) (w 23) (w 24) (w 25) (w 26) (w 27) (w 28) (w 29) v1 (nI n) v3 v4 e1 (nI nn) (nI L) v8 v9 v10 v11 (zF a) x hm sz
    exact rd_of hE hb h0 h20 hx1 hx2 h1 h2 h3 h4 h5 h6 h7 hF hF' ⟨by omega, by omega, by omega, by omega, by omega, by omega⟩ (k_isLit_e1 l hE D cy (w 0) (w 30) F x hW hN hX (rc_x hE h0 h1.1 (fun sz => t_X8_isLit_e1 l hE D cy (w 0) (w 1) (q 0) (w 3) (w 7) (w 8) t e1 e2 e3 e4 e5 a hL0 hX x hx sz))) (rm_21 hE h20 h1.2.1 h9) (fun hk => absurd hk (by decide))
set_option maxHeartbeats 200000 in
set_option maxRecDepth 100000 in
theorem s_isDown (x : Int32) (hE : zEok E) (hL0 : l.stackTraces = false) (hX : zOutX E) (hN : zOutN E) (hO : zOut E) (hb : b + 12 ≤ 20000) (h : zAll cy ad w t q s b f) : zKI l E D cy yL_isDown cL_isDown 4 [(0, 16, 19, 24), (0, 16, 22, 13)] yX9_isDown cX9_isDown 2 (some .boolean) (fun r => if r = 0 then 0 else 1) [.int x] (w 0) (w 20) (w 30) (zWl f zLs) (zPo cy ad w t q s (b + 12)) := by
  obtain ⟨a, n, nn, L, e1, v1, ⟨e2, e3, e4, e5, v3, v4, v8, v9, v10, v11, h0, h20, hx1, hx2⟩, h1, h2, h3, h4, h5, h6, h7, ⟨F, hF⟩, ⟨F', hF'⟩⟩ := h
  have hB := h1.2.2.1
  have hI := h1.2.2
  have hW := hW_of h0 hF'
  have h00 : ¬ a 0 = 1 → a 0 = 0 := by have := hB; unfold zBd at this; omega
  have hg1 : a 0 = 1 → zF a 0 = 1 := fun hr => by show nI (a 0) = 1; rw [hr]; rfl
  have hg0 : ¬ a 0 = 1 → ¬ zF a 0 = 1 := fun hr => by show ¬ nI (a 0) = 1; rw [h00 hr]; decide
  have ha2 : a 2 ≤ 4 := by have := hB; unfold zBd at this; omega
  have ha13 : a 13 ≤ 5 := by have := hB; unfold zBd at this; omega
  rcases ix_c x (N := 5) (by omega) with ⟨i, hi, rfl⟩ | ⟨hx, hm⟩
  · have e : n_X9_isDown_ok (zF a) i = (nI (a (24 + i)), 0) := by
      show (if zF a (24 + i) = 1 then ((1 : Int32), (0 : Int32)) else (0, 0)) = (zF a (24 + i), 0)
      rcases zb_d hB i hi with c | c
      · rw [show zF a (24 + i) = 0 from c]; rfl
      · rw [show zF a (24 + i) = 1 from c]; rfl
    have hj : ¬ n_X8_isIndex (nI i) 5 = 0 := z_ix 5 (by decide) i hi
    by_cases hr : a 0 = 1
    · have h9 := fun sz : Nat => c_X9_isDown_ok l hE D cy (w 20) (w 21) (w 22) (w 23) (w 24) (w 25) (w 26) (w 27) (w 28) (w 29) v1 (nI n) v3 v4 e1 (nI nn) (nI L) v8 v9 v10 v11 (zF a) (nI i) i (zi_i i) (by omega) (hg1 hr) sz
      rw [e] at h9
      exact rd_of hE hb h0 h20 hx1 hx2 h1 h2 h3 h4 h5 h6 h7 hF hF' ⟨by omega, by omega, by omega, by omega, by omega, by omega⟩ (k_isDown l hE D cy (w 0) (w 30) F (nI i) hW (rc_i hE h0 h1.1 (fun sz => t_X8_isDown l hE D cy (w 0) (w 1) (q 0) (w 3) (w 7) (w 8) t e1 e2 e3 e4 e5 a hB hr i hi sz))) (rm_21 hE h20 h1.2.1 h9) (fun _ => rfl)
    · have h9 := fun sz : Nat => c_X9_isDown_2 l hE D cy (w 20) (w 21) (w 22) (w 23) (w 24) (w 25) (w 26) (w 27) (w 28) (w 29) v1 (nI n) v3 v4 e1 (nI nn) (nI L) v8 v9 v10 v11 (zF a) (nI i) i (zi_i i) (by omega) (hg0 hr) sz
      exact rd_of hE hb h0 h20 hx1 hx2 h1 h2 h3 h4 h5 h6 h7 hF hF' ⟨by omega, by omega, by omega, by omega, by omega, by omega⟩ (k_isDown_e2 l hE D cy (w 0) (w 30) F (nI i) hW hN hX (rc_x hE h0 h1.1 (fun sz => t_X8_isDown_e2 l hE D cy (w 0) (w 1) (q 0) (w 3) (w 7) (w 8) t e1 e2 e3 e4 e5 a hL0 hX (nI i) hj (by rw [h00 hr]; rfl) sz))) (rm_21 hE h20 h1.2.1 h9) (fun hk => absurd hk (by decide))
  · have h9 := fun sz : Nat => c_X9_isDown_1 l hE D cy (w 20) (w 21) (w 22) (w 23) (w 24) (w 25) (w 26) (w 27) (w 28) (w 29) v1 (nI n) v3 v4 e1 (nI nn) (nI L) v8 v9 v10 v11 (zF a) x hm sz
    exact rd_of hE hb h0 h20 hx1 hx2 h1 h2 h3 h4 h5 h6 h7 hF hF' ⟨by omega, by omega, by omega, by omega, by omega, by omega⟩ (k_isDown_e1 l hE D cy (w 0) (w 30) F x hW hN hX (rc_x hE h0 h1.1 (fun sz => t_X8_isDown_e1 l hE D cy (w 0) (w 1) (q 0) (w 3) (w 7) (w 8) t e1 e2 e3 e4 e5 a hL0 hX x hx sz))) (rm_21 hE h20 h1.2.1 h9) (fun hk => absurd hk (by decide))
set_option maxHeartbeats 200000 in
set_option maxRecDepth 100000 in
theorem s_bumperValue (x : Int32) (hE : zEok E) (hL0 : l.stackTraces = false) (hX : zOutX E) (hN : zOutN E) (hO : zOut E) (hb : b + 12 ≤ 20000) (h : zAll cy ad w t q s b f) : zKI l E D cy yL_bumperValue cL_bumperValue 4 [(0, 9, 12, 24), (0, 9, 15, 13)] yX9_bumperValue cX9_bumperValue 2 (some .int) Int32.toInt64 [.int x] (w 0) (w 20) (w 30) (zWl f zLs) (zPo cy ad w t q s (b + 12)) := by
  obtain ⟨a, n, nn, L, e1, v1, ⟨e2, e3, e4, e5, v3, v4, v8, v9, v10, v11, h0, h20, hx1, hx2⟩, h1, h2, h3, h4, h5, h6, h7, ⟨F, hF⟩, ⟨F', hF'⟩⟩ := h
  have hB := h1.2.2.1
  have hI := h1.2.2
  have hW := hW_of h0 hF'
  have h00 : ¬ a 0 = 1 → a 0 = 0 := by have := hB; unfold zBd at this; omega
  have hg1 : a 0 = 1 → zF a 0 = 1 := fun hr => by show nI (a 0) = 1; rw [hr]; rfl
  have hg0 : ¬ a 0 = 1 → ¬ zF a 0 = 1 := fun hr => by show ¬ nI (a 0) = 1; rw [h00 hr]; decide
  have ha2 : a 2 ≤ 4 := by have := hB; unfold zBd at this; omega
  have ha13 : a 13 ≤ 5 := by have := hB; unfold zBd at this; omega
  rcases ix_c x (N := 3) (by omega) with ⟨i, hi, rfl⟩ | ⟨hx, hm⟩
  · have hj : ¬ n_X8_isIndex (nI i) 3 = 0 := z_ix 3 (by decide) i hi
    by_cases hr : a 0 = 1
    · have h9 := fun sz : Nat => c_X9_bumperValue_ok l hE D cy (w 20) (w 21) (w 22) (w 23) (w 24) (w 25) (w 26) (w 27) (w 28) (w 29) v1 (nI n) v3 v4 e1 (nI nn) (nI L) v8 v9 v10 v11 (zF a) (nI i) i (zi_i i) (by omega) (hg1 hr) sz
      exact rd_of hE hb h0 h20 hx1 hx2 h1 h2 h3 h4 h5 h6 h7 hF hF' ⟨by omega, by omega, by omega, by omega, by omega, by omega⟩ (k_bumperValue l hE D cy (w 0) (w 30) F (nI i) hW (rc_i hE h0 h1.1 (fun sz => t_X8_bumperValue l hE D cy (w 0) (w 1) (q 0) (w 3) (w 7) (w 8) t e1 e2 e3 e4 e5 a hB hr i hi sz))) (rm_21 hE h20 h1.2.1 h9) (fun _ => rfl)
    · have h9 := fun sz : Nat => c_X9_bumperValue_2 l hE D cy (w 20) (w 21) (w 22) (w 23) (w 24) (w 25) (w 26) (w 27) (w 28) (w 29) v1 (nI n) v3 v4 e1 (nI nn) (nI L) v8 v9 v10 v11 (zF a) (nI i) i (zi_i i) (by omega) (hg0 hr) sz
      exact rd_of hE hb h0 h20 hx1 hx2 h1 h2 h3 h4 h5 h6 h7 hF hF' ⟨by omega, by omega, by omega, by omega, by omega, by omega⟩ (k_bumperValue_e2 l hE D cy (w 0) (w 30) F (nI i) hW hN hX (rc_x hE h0 h1.1 (fun sz => t_X8_bumperValue_e2 l hE D cy (w 0) (w 1) (q 0) (w 3) (w 7) (w 8) t e1 e2 e3 e4 e5 a hL0 hX (nI i) hj (by rw [h00 hr]; rfl) sz))) (rm_21 hE h20 h1.2.1 h9) (fun hk => absurd hk (by decide))
  · have h9 := fun sz : Nat => c_X9_bumperValue_1 l hE D cy (w 20) (w 21) (w 22) (w 23) (w 24) (w 25) (w 26) (w 27) (w 28) (w 29) v1 (nI n) v3 v4 e1 (nI nn) (nI L) v8 v9 v10 v11 (zF a) x hm sz
    exact rd_of hE hb h0 h20 hx1 hx2 h1 h2 h3 h4 h5 h6 h7 hF hF' ⟨by omega, by omega, by omega, by omega, by omega, by omega⟩ (k_bumperValue_e1 l hE D cy (w 0) (w 30) F x hW hN hX (rc_x hE h0 h1.1 (fun sz => t_X8_bumperValue_e1 l hE D cy (w 0) (w 1) (q 0) (w 3) (w 7) (w 8) t e1 e2 e3 e4 e5 a hL0 hX x hx sz))) (rm_21 hE h20 h1.2.1 h9) (fun hk => absurd hk (by decide))
set_option maxHeartbeats 200000 in
set_option maxRecDepth 100000 in
theorem s_playerAtRank (x : Int32) (hE : zEok E) (hL0 : l.stackTraces = false) (hX : zOutX E) (hN : zOutN E) (hO : zOut E) (hb : b + 12 ≤ 20000) (h : zAll cy ad w t q s b f) : zKI l E D cy yL_playerAtRank cL_playerAtRank 4 [(0, 9, 12, 18)] yX9_playerAtRank cX9_playerAtRank 5 (some .int) Int32.toInt64 [.int x] (w 0) (w 20) (w 30) (zWl f zLs) (zPo cy ad w t q s (b + 12)) := by
  obtain ⟨a, n, nn, L, e1, v1, ⟨e2, e3, e4, e5, v3, v4, v8, v9, v10, v11, h0, h20, hx1, hx2⟩, h1, h2, h3, h4, h5, h6, h7, ⟨F, hF⟩, ⟨F', hF'⟩⟩ := h
  have hB := h1.2.2.1
  have hI := h1.2.2
  have hW := hW_of h0 hF'
  have h00 : ¬ a 0 = 1 → a 0 = 0 := by have := hB; unfold zBd at this; omega
  have hg1 : a 0 = 1 → zF a 0 = 1 := fun hr => by show nI (a 0) = 1; rw [hr]; rfl
  have hg0 : ¬ a 0 = 1 → ¬ zF a 0 = 1 := fun hr => by show ¬ nI (a 0) = 1; rw [h00 hr]; decide
  have ha2 : a 2 ≤ 4 := by have := hB; unfold zBd at this; omega
  have ha13 : a 13 ≤ 5 := by have := hB; unfold zBd at this; omega
  have er := r_rank (zAg_self a) hB x
  by_cases hk : n_X6_playerRanked (nI (a 2)) (fun j => nI (a (30 + j))) (fun j => nI (a (34 + j))) x = -1
  · rw [if_pos hk] at er
    have h9 := fun sz : Nat => c_X9_playerAtRank l hE D cy (w 20) (w 21) (w 22) (w 23) (w 24) (w 25) (w 26) (w 27) (w 28) (w 29) v1 (nI n) v3 v4 e1 (nI nn) (nI L) v8 v9 v10 v11 (zF a) x (zle_I ha2 (by omega)) sz
    rw [er] at h9
    exact rd_of hE hb h0 h20 hx1 hx2 h1 h2 h3 h4 h5 h6 h7 hF hF' ⟨by omega, by omega, by omega, by omega, by omega, by omega⟩ (k_playerAtRank_e1 l hE D cy (w 0) (w 30) F x hW hN hX (rc_x hE h0 h1.1 (fun sz => t_X8_playerAtRank_e l hE D cy (w 0) (w 1) (q 0) (w 3) (w 7) (w 8) t e1 e2 e3 e4 e5 a hL0 hX x (zle_I ha2 (by omega)) hk sz))) (rm_21 hE h20 h1.2.1 h9) (fun hk => absurd hk (by decide))
  · rw [if_neg hk] at er
    have h9 := fun sz : Nat => c_X9_playerAtRank l hE D cy (w 20) (w 21) (w 22) (w 23) (w 24) (w 25) (w 26) (w 27) (w 28) (w 29) v1 (nI n) v3 v4 e1 (nI nn) (nI L) v8 v9 v10 v11 (zF a) x (zle_I ha2 (by omega)) sz
    rw [er] at h9
    exact rd_of hE hb h0 h20 hx1 hx2 h1 h2 h3 h4 h5 h6 h7 hF hF' ⟨by omega, by omega, by omega, by omega, by omega, by omega⟩ (k_playerAtRank l hE D cy (w 0) (w 30) F x hW (rc_i hE h0 h1.1 (fun sz => t_X8_playerAtRank l hE D cy (w 0) (w 1) (q 0) (w 3) (w 7) (w 8) t e1 e2 e3 e4 e5 a hI x (by rw [er]) sz))) (rm_21 hE h20 h1.2.1 h9) (fun _ => by rw [er]; rfl)
set_option maxHeartbeats 200000 in
set_option maxRecDepth 100000 in
theorem s_pointsOf (x : Int32) (hE : zEok E) (hL0 : l.stackTraces = false) (hX : zOutX E) (hN : zOutN E) (hO : zOut E) (hb : b + 12 ≤ 20000) (h : zAll cy ad w t q s b f) : zKI l E D cy yL_pointsOf cL_pointsOf 4 [(0, 9, 12, 35)] yX9_pointsOf cX9_pointsOf 2 (some .int) Int32.toInt64 [.int x] (w 0) (w 20) (w 30) (zWl f zLs) (zPo cy ad w t q s (b + 12)) := by
  obtain ⟨a, n, nn, L, e1, v1, ⟨e2, e3, e4, e5, v3, v4, v8, v9, v10, v11, h0, h20, hx1, hx2⟩, h1, h2, h3, h4, h5, h6, h7, ⟨F, hF⟩, ⟨F', hF'⟩⟩ := h
  have hB := h1.2.2.1
  have hI := h1.2.2
  have hW := hW_of h0 hF'
  have h00 : ¬ a 0 = 1 → a 0 = 0 := by have := hB; unfold zBd at this; omega
  have hg1 : a 0 = 1 → zF a 0 = 1 := fun hr => by show nI (a 0) = 1; rw [hr]; rfl
  have hg0 : ¬ a 0 = 1 → ¬ zF a 0 = 1 := fun hr => by show ¬ nI (a 0) = 1; rw [h00 hr]; decide
  have ha2 : a 2 ≤ 4 := by have := hB; unfold zBd at this; omega
  have ha13 : a 13 ≤ 5 := by have := hB; unfold zBd at this; omega
  by_cases c0 : x = 108
  · subst c0
    have h9 := fun sz : Nat => c_X9_pointsOf l hE D cy (w 20) (w 21) (w 22) (w 23) (w 24) (w 25) (w 26) (w 27) (w 28) (w 29) v1 (nI n) v3 v4 e1 (nI nn) (nI L) v8 v9 v10 v11 (zF a) 108 sz
    exact rd_of hE hb h0 h20 hx1 hx2 h1 h2 h3 h4 h5 h6 h7 hF hF' ⟨by omega, by omega, by omega, by omega, by omega, by omega⟩ (k_pointsOf l hE D cy (w 0) (w 30) F 108 hW (rc_i hE h0 h1.1 (fun sz => t_X8_pointsOf l hE D cy (w 0) (w 1) (q 0) (w 3) (w 7) (w 8) t e1 e2 e3 e4 e5 a 108 0 (by decide) (by decide) sz))) (rm_21 hE h20 h1.2.1 h9) (fun _ => rfl)
  by_cases c1 : x = 98
  · subst c1
    have h9 := fun sz : Nat => c_X9_pointsOf l hE D cy (w 20) (w 21) (w 22) (w 23) (w 24) (w 25) (w 26) (w 27) (w 28) (w 29) v1 (nI n) v3 v4 e1 (nI nn) (nI L) v8 v9 v10 v11 (zF a) 98 sz
    exact rd_of hE hb h0 h20 hx1 hx2 h1 h2 h3 h4 h5 h6 h7 hF hF' ⟨by omega, by omega, by omega, by omega, by omega, by omega⟩ (k_pointsOf l hE D cy (w 0) (w 30) F 98 hW (rc_i hE h0 h1.1 (fun sz => t_X8_pointsOf l hE D cy (w 0) (w 1) (q 0) (w 3) (w 7) (w 8) t e1 e2 e3 e4 e5 a 98 1 (by decide) (by decide) sz))) (rm_21 hE h20 h1.2.1 h9) (fun _ => rfl)
  by_cases c2 : x = 116
  · subst c2
    have h9 := fun sz : Nat => c_X9_pointsOf l hE D cy (w 20) (w 21) (w 22) (w 23) (w 24) (w 25) (w 26) (w 27) (w 28) (w 29) v1 (nI n) v3 v4 e1 (nI nn) (nI L) v8 v9 v10 v11 (zF a) 116 sz
    exact rd_of hE hb h0 h20 hx1 hx2 h1 h2 h3 h4 h5 h6 h7 hF hF' ⟨by omega, by omega, by omega, by omega, by omega, by omega⟩ (k_pointsOf l hE D cy (w 0) (w 30) F 116 hW (rc_i hE h0 h1.1 (fun sz => t_X8_pointsOf l hE D cy (w 0) (w 1) (q 0) (w 3) (w 7) (w 8) t e1 e2 e3 e4 e5 a 116 2 (by decide) (by decide) sz))) (rm_21 hE h20 h1.2.1 h9) (fun _ => rfl)
  by_cases c3 : x = 117
  · subst c3
    have h9 := fun sz : Nat => c_X9_pointsOf l hE D cy (w 20) (w 21) (w 22) (w 23) (w 24) (w 25) (w 26) (w 27) (w 28) (w 29) v1 (nI n) v3 v4 e1 (nI nn) (nI L) v8 v9 v10 v11 (zF a) 117 sz
    exact rd_of hE hb h0 h20 hx1 hx2 h1 h2 h3 h4 h5 h6 h7 hF hF' ⟨by omega, by omega, by omega, by omega, by omega, by omega⟩ (k_pointsOf l hE D cy (w 0) (w 30) F 117 hW (rc_i hE h0 h1.1 (fun sz => t_X8_pointsOf l hE D cy (w 0) (w 1) (q 0) (w 3) (w 7) (w 8) t e1 e2 e3 e4 e5 a 117 3 (by decide) (by decide) sz))) (rm_21 hE h20 h1.2.1 h9) (fun _ => rfl)
  have ek : n_X8_kindIndex x = -1 := by unfold n_X8_kindIndex; rw [if_neg c1, if_neg c0, if_neg c2, if_neg c3]
  have em : n_X9_pointsOf (zF a) x = (0, 1) := by unfold n_X9_pointsOf; rw [if_neg c1, if_neg c0, if_neg c2, if_neg c3]; rfl
  have h9 := fun sz : Nat => c_X9_pointsOf l hE D cy (w 20) (w 21) (w 22) (w 23) (w 24) (w 25) (w 26) (w 27) (w 28) (w 29) v1 (nI n) v3 v4 e1 (nI nn) (nI L) v8 v9 v10 v11 (zF a) x sz
  rw [em] at h9
  exact rd_of hE hb h0 h20 hx1 hx2 h1 h2 h3 h4 h5 h6 h7 hF hF' ⟨by omega, by omega, by omega, by omega, by omega, by omega⟩ (k_pointsOf_e1 l hE D cy (w 0) (w 30) F x hW hN hX (rc_x hE h0 h1.1 (fun sz => t_X8_pointsOf_e l hE D cy (w 0) (w 1) (q 0) (w 3) (w 7) (w 8) t e1 e2 e3 e4 e5 a hL0 hX x ek sz))) (rm_21 hE h20 h1.2.1 h9) (fun hk => absurd hk (by decide))
set_option maxHeartbeats 200000 in
set_option maxRecDepth 100000 in
theorem s_isRunning (hE : zEok E) (hL0 : l.stackTraces = false) (hX : zOutX E) (hN : zOutN E) (hO : zOut E) (hb : b + 12 ≤ 20000) (h : zAll cy ad w t q s b f) : zKP l E D cy yX8_isRunning cX8_isRunning 1 (some .boolean) yX9_isRunning cX9_isRunning 1 (some .boolean) (w 0) (w 20) (zWl f zLs) (zPo cy ad w t q s (b + 12)) := by
  obtain ⟨a, n, nn, L, e1, v1, ⟨e2, e3, e4, e5, v3, v4, v8, v9, v10, v11, h0, h20, hx1, hx2⟩, h1, h2, h3, h4, h5, h6, h7, ⟨F, hF⟩, ⟨F', hF'⟩⟩ := h
  have hB := h1.2.2.1
  have hI := h1.2.2
  have hW := hW_of h0 hF'
  have e : n_X9_isRunning (zF a) = (nI (a 0), 0) := by
    show (if zF a 0 = 1 then ((1 : Int32), (0 : Int32)) else (0, 0)) = (zF a 0, 0)
    rcases zb_0 hB with c | c
    · rw [show zF a 0 = 0 from c]; rfl
    · rw [show zF a 0 = 1 from c]; rfl
  have h9 := fun sz : Nat => c_X9_isRunning l hE D cy (w 20) (w 21) (w 22) (w 23) (w 24) (w 25) (w 26) (w 27) (w 28) (w 29) v1 (nI n) v3 v4 e1 (nI nn) (nI L) v8 v9 v10 v11 (zF a) sz
  rw [e] at h9
  exact rp_of hE hb h0 h20 hx1 hx2 h1 h2 h3 h4 h5 h6 h7 hF hF' ⟨by omega, by omega, by omega, by omega, by omega, by omega⟩ (fun sz => t_X8_isRunning l hE D cy (w 0) (w 1) (q 0) (w 3) (w 7) (w 8) t e1 e2 e3 e4 e5 a hB sz) h9
set_option maxHeartbeats 200000 in
set_option maxRecDepth 100000 in
theorem s_gameCount (hE : zEok E) (hL0 : l.stackTraces = false) (hX : zOutX E) (hN : zOutN E) (hO : zOut E) (hb : b + 12 ≤ 20000) (h : zAll cy ad w t q s b f) : zKP l E D cy yX8_gameCount cX8_gameCount 1 (some .int) yX9_gameCount cX9_gameCount 1 (some .int) (w 0) (w 20) (zWl f zLs) (zPo cy ad w t q s (b + 12)) := by
  obtain ⟨a, n, nn, L, e1, v1, ⟨e2, e3, e4, e5, v3, v4, v8, v9, v10, v11, h0, h20, hx1, hx2⟩, h1, h2, h3, h4, h5, h6, h7, ⟨F, hF⟩, ⟨F', hF'⟩⟩ := h
  have hB := h1.2.2.1
  have hI := h1.2.2
  have hW := hW_of h0 hF'
  have h9 := fun sz : Nat => c_X9_gameCount l hE D cy (w 20) (w 21) (w 22) (w 23) (w 24) (w 25) (w 26) (w 27) (w 28) (w 29) v1 (nI n) v3 v4 e1 (nI nn) (nI L) v8 v9 v10 v11 (zF a) sz
  exact rp_of hE hb h0 h20 hx1 hx2 h1 h2 h3 h4 h5 h6 h7 hF hF' ⟨by omega, by omega, by omega, by omega, by omega, by omega⟩ (fun sz => t_X8_gameCount l hE D cy (w 0) (w 1) (q 0) (w 3) (w 7) (w 8) t e1 e2 e3 e4 e5 a hB sz) h9
set_option maxHeartbeats 200000 in
set_option maxRecDepth 100000 in
theorem s_playerCount (hE : zEok E) (hL0 : l.stackTraces = false) (hX : zOutX E) (hN : zOutN E) (hO : zOut E) (hb : b + 12 ≤ 20000) (h : zAll cy ad w t q s b f) : zKP l E D cy yX8_playerCount cX8_playerCount 1 (some .int) yX9_playerCount cX9_playerCount 1 (some .int) (w 0) (w 20) (zWl f zLs) (zPo cy ad w t q s (b + 12)) := by
  obtain ⟨a, n, nn, L, e1, v1, ⟨e2, e3, e4, e5, v3, v4, v8, v9, v10, v11, h0, h20, hx1, hx2⟩, h1, h2, h3, h4, h5, h6, h7, ⟨F, hF⟩, ⟨F', hF'⟩⟩ := h
  have hB := h1.2.2.1
  have hI := h1.2.2
  have hW := hW_of h0 hF'
  have h9 := fun sz : Nat => c_X9_playerCount l hE D cy (w 20) (w 21) (w 22) (w 23) (w 24) (w 25) (w 26) (w 27) (w 28) (w 29) v1 (nI n) v3 v4 e1 (nI nn) (nI L) v8 v9 v10 v11 (zF a) sz
  exact rp_of hE hb h0 h20 hx1 hx2 h1 h2 h3 h4 h5 h6 h7 hF hF' ⟨by omega, by omega, by omega, by omega, by omega, by omega⟩ (fun sz => t_X8_playerCount l hE D cy (w 0) (w 1) (q 0) (w 3) (w 7) (w 8) t e1 e2 e3 e4 e5 a hB sz) h9
set_option maxHeartbeats 200000 in
set_option maxRecDepth 100000 in
theorem s_recordCount (hE : zEok E) (hL0 : l.stackTraces = false) (hX : zOutX E) (hN : zOutN E) (hO : zOut E) (hb : b + 12 ≤ 20000) (h : zAll cy ad w t q s b f) : zKP l E D cy yX8_recordCount cX8_recordCount 1 (some .int) yX9_recordCount cX9_recordCount 1 (some .int) (w 0) (w 20) (zWl f zLs) (zPo cy ad w t q s (b + 12)) := by
  obtain ⟨a, n, nn, L, e1, v1, ⟨e2, e3, e4, e5, v3, v4, v8, v9, v10, v11, h0, h20, hx1, hx2⟩, h1, h2, h3, h4, h5, h6, h7, ⟨F, hF⟩, ⟨F', hF'⟩⟩ := h
  have hB := h1.2.2.1
  have hI := h1.2.2
  have hW := hW_of h0 hF'
  have h9 := fun sz : Nat => c_X9_recordCount l hE D cy (w 20) (w 21) (w 22) (w 23) (w 24) (w 25) (w 26) (w 27) (w 28) (w 29) v1 (nI n) v3 v4 e1 (nI nn) (nI L) v8 v9 v10 v11 (zF a) sz
  exact rp_of hE hb h0 h20 hx1 hx2 h1 h2 h3 h4 h5 h6 h7 hF hF' ⟨by omega, by omega, by omega, by omega, by omega, by omega⟩ (fun sz => t_X8_recordCount l hE D cy (w 0) (w 1) (q 0) (w 3) (w 7) (w 8) t e1 e2 e3 e4 e5 a hB sz) h9
set_option maxHeartbeats 200000 in
set_option maxRecDepth 100000 in
theorem s_pointsTotal (hE : zEok E) (hL0 : l.stackTraces = false) (hX : zOutX E) (hN : zOutN E) (hO : zOut E) (hb : b + 12 ≤ 20000) (h : zAll cy ad w t q s b f) : zKP l E D cy yX8_pointsTotal cX8_pointsTotal 1 (some .int) yX9_pointsTotal cX9_pointsTotal 1 (some .int) (w 0) (w 20) (zWl f zLs) (zPo cy ad w t q s (b + 12)) := by
  obtain ⟨a, n, nn, L, e1, v1, ⟨e2, e3, e4, e5, v3, v4, v8, v9, v10, v11, h0, h20, hx1, hx2⟩, h1, h2, h3, h4, h5, h6, h7, ⟨F, hF⟩, ⟨F', hF'⟩⟩ := h
  have hB := h1.2.2.1
  have hI := h1.2.2
  have hW := hW_of h0 hF'
  have e : n_X9_pointsTotal (zF a) = (nI (a 42 + a 43 + a 44 + a 45), 0) := by
    show (nI (a 42) + nI (a 43) + nI (a 44) + nI (a 45), (0 : Int32)) = _
    rw [nI_add, nI_add, nI_add]
  have h9 := fun sz : Nat => c_X9_pointsTotal l hE D cy (w 20) (w 21) (w 22) (w 23) (w 24) (w 25) (w 26) (w 27) (w 28) (w 29) v1 (nI n) v3 v4 e1 (nI nn) (nI L) v8 v9 v10 v11 (zF a) sz
  rw [e] at h9
  exact rp_of hE hb h0 h20 hx1 hx2 h1 h2 h3 h4 h5 h6 h7 hF hF' ⟨by omega, by omega, by omega, by omega, by omega, by omega⟩ (fun sz => t_X8_pointsTotal l hE D cy (w 0) (w 1) (q 0) (w 3) (w 7) (w 8) t e1 e2 e3 e4 e5 a hB sz) h9
set_option maxHeartbeats 200000 in
set_option maxRecDepth 100000 in
theorem s_drainedBalls (hE : zEok E) (hL0 : l.stackTraces = false) (hX : zOutX E) (hN : zOutN E) (hO : zOut E) (hb : b + 12 ≤ 20000) (h : zAll cy ad w t q s b f) : zKP l E D cy yX8_drainedBalls cX8_drainedBalls 1 (some .int) yX9_drainedBalls cX9_drainedBalls 1 (some .int) (w 0) (w 20) (zWl f zLs) (zPo cy ad w t q s (b + 12)) := by
  obtain ⟨a, n, nn, L, e1, v1, ⟨e2, e3, e4, e5, v3, v4, v8, v9, v10, v11, h0, h20, hx1, hx2⟩, h1, h2, h3, h4, h5, h6, h7, ⟨F, hF⟩, ⟨F', hF'⟩⟩ := h
  have hB := h1.2.2.1
  have hI := h1.2.2
  have hW := hW_of h0 hF'
  have h9 := fun sz : Nat => c_X9_drainedBalls l hE D cy (w 20) (w 21) (w 22) (w 23) (w 24) (w 25) (w 26) (w 27) (w 28) (w 29) v1 (nI n) v3 v4 e1 (nI nn) (nI L) v8 v9 v10 v11 (zF a) sz
  exact rp_of hE hb h0 h20 hx1 hx2 h1 h2 h3 h4 h5 h6 h7 hF hF' ⟨by omega, by omega, by omega, by omega, by omega, by omega⟩ (fun sz => t_X8_drainedBalls l hE D cy (w 0) (w 1) (q 0) (w 3) (w 7) (w 8) t e1 e2 e3 e4 e5 a hB sz) h9
set_option maxHeartbeats 200000 in
set_option maxRecDepth 100000 in
theorem s_tiltedBalls (hE : zEok E) (hL0 : l.stackTraces = false) (hX : zOutX E) (hN : zOutN E) (hO : zOut E) (hb : b + 12 ≤ 20000) (h : zAll cy ad w t q s b f) : zKP l E D cy yX8_tiltedBalls cX8_tiltedBalls 1 (some .int) yX9_tiltedBalls cX9_tiltedBalls 1 (some .int) (w 0) (w 20) (zWl f zLs) (zPo cy ad w t q s (b + 12)) := by
  obtain ⟨a, n, nn, L, e1, v1, ⟨e2, e3, e4, e5, v3, v4, v8, v9, v10, v11, h0, h20, hx1, hx2⟩, h1, h2, h3, h4, h5, h6, h7, ⟨F, hF⟩, ⟨F', hF'⟩⟩ := h
  have hB := h1.2.2.1
  have hI := h1.2.2
  have hW := hW_of h0 hF'
  have h9 := fun sz : Nat => c_X9_tiltedBalls l hE D cy (w 20) (w 21) (w 22) (w 23) (w 24) (w 25) (w 26) (w 27) (w 28) (w 29) v1 (nI n) v3 v4 e1 (nI nn) (nI L) v8 v9 v10 v11 (zF a) sz
  exact rp_of hE hb h0 h20 hx1 hx2 h1 h2 h3 h4 h5 h6 h7 hF hF' ⟨by omega, by omega, by omega, by omega, by omega, by omega⟩ (fun sz => t_X8_tiltedBalls l hE D cy (w 0) (w 1) (q 0) (w 3) (w 7) (w 8) t e1 e2 e3 e4 e5 a hB sz) h9
end SEM
