section SEM
variable {l : Launch} {E : zEn} {D : zG} {cy : Nat → ClassId} {ad w t q : Nat → Nat} {s : Nat → Nat → Nat} {b : Nat} {f : Nat → va_W}
set_option maxRecDepth 100000 in
theorem s_currentPlayer (hE : zEok E) (hL0 : l.stackTraces = false) (hX : zOutX E) (hN : zOutN E) (hO : zOut E) (hb : b + 12 ≤ 20000) (h : zAll cy ad w t q s b f) : zKI l E D cy yL_currentPlayer cL_currentPlayer 3 [(0, 8, 11, 13)] yX9_currentPlayer cX9_currentPlayer 1 (some .int) Int32.toInt64 [] (w 0) (w 20) (w 30) (zWl f zLs) (zPo cy ad w t q s (b + 12)) := by
  obtain ⟨a, n, nn, L, e1, v1, ⟨e2, e3, e4, e5, v3, v4, v8, v9, v10, v11, h0, h20, hx1, hx2⟩, h1, h2, h3, h4, h5, h6, h7, ⟨F, hF⟩, ⟨F', hF'⟩⟩ := h
  have hB := h1.2.2.1
  have hI := h1.2.2
  have hW := hW_of h0 hF'
  by_cases hr : a 0 = 1
  · have hg : zF a 0 = 1 := by show nI (a 0) = 1; rw [hr]; rfl
    exact rd_of hE hb h0 h20 hx1 hx2 h1 h2 h3 h4 h5 h6 h7 hF hF' ⟨by omega, by omega, by omega, by omega, by omega, by omega⟩ (k_currentPlayer l hE D cy (w 0) (w 30) F hW (rc_i hE h0 h1.1 (fun sz => t_X8_currentPlayer l hE D cy (w 0) (w 1) (q 0) (w 3) (w 7) (w 8) t e1 e2 e3 e4 e5 a hB hr sz))) (rm_21 hE h20 h1.2.1 (fun sz => c_X9_currentPlayer_ok l hE D cy (w 20) (w 21) (w 22) (w 23) (w 24) (w 25) (w 26) (w 27) (w 28) (w 29) v1 (nI n) v3 v4 e1 (nI nn) (nI L) v8 v9 v10 v11 (zF a) hg sz)) (fun _ => rfl)
  · have h00 : a 0 = 0 := by have := hB; unfold zBd at this; omega
    have hg : ¬ zF a 0 = 1 := by show ¬ nI (a 0) = 1; rw [h00]; decide
    exact rd_of hE hb h0 h20 hx1 hx2 h1 h2 h3 h4 h5 h6 h7 hF hF' ⟨by omega, by omega, by omega, by omega, by omega, by omega⟩ (k_currentPlayer_e1 l hE D cy (w 0) (w 30) F hW hN hX (rc_x hE h0 h1.1 (fun sz => t_X8_currentPlayer_e l hE D cy (w 0) (w 1) (q 0) (w 3) (w 7) (w 8) t e1 e2 e3 e4 e5 a hL0 hX (by rw [h00]; rfl) sz))) (rm_21 hE h20 h1.2.1 (fun sz => c_X9_currentPlayer_1 l hE D cy (w 20) (w 21) (w 22) (w 23) (w 24) (w 25) (w 26) (w 27) (w 28) (w 29) v1 (nI n) v3 v4 e1 (nI nn) (nI L) v8 v9 v10 v11 (zF a) hg sz)) (fun hk => absurd hk (by decide))
set_option maxRecDepth 100000 in
theorem s_ballNumber (hE : zEok E) (hL0 : l.stackTraces = false) (hX : zOutX E) (hN : zOutN E) (hO : zOut E) (hb : b + 12 ≤ 20000) (h : zAll cy ad w t q s b f) : zKI l E D cy yL_ballNumber cL_ballNumber 3 [(0, 8, 11, 13)] yX9_ballNumber cX9_ballNumber 1 (some .int) Int32.toInt64 [] (w 0) (w 20) (w 30) (zWl f zLs) (zPo cy ad w t q s (b + 12)) := by
  obtain ⟨a, n, nn, L, e1, v1, ⟨e2, e3, e4, e5, v3, v4, v8, v9, v10, v11, h0, h20, hx1, hx2⟩, h1, h2, h3, h4, h5, h6, h7, ⟨F, hF⟩, ⟨F', hF'⟩⟩ := h
  have hB := h1.2.2.1
  have hI := h1.2.2
  have hW := hW_of h0 hF'
  by_cases hr : a 0 = 1
  · have hg : zF a 0 = 1 := by show nI (a 0) = 1; rw [hr]; rfl
    exact rd_of hE hb h0 h20 hx1 hx2 h1 h2 h3 h4 h5 h6 h7 hF hF' ⟨by omega, by omega, by omega, by omega, by omega, by omega⟩ (k_ballNumber l hE D cy (w 0) (w 30) F hW (rc_i hE h0 h1.1 (fun sz => t_X8_ballNumber l hE D cy (w 0) (w 1) (q 0) (w 3) (w 7) (w 8) t e1 e2 e3 e4 e5 a hB hr sz))) (rm_21 hE h20 h1.2.1 (fun sz => c_X9_ballNumber_ok l hE D cy (w 20) (w 21) (w 22) (w 23) (w 24) (w 25) (w 26) (w 27) (w 28) (w 29) v1 (nI n) v3 v4 e1 (nI nn) (nI L) v8 v9 v10 v11 (zF a) hg sz)) (fun _ => rfl)
  · have h00 : a 0 = 0 := by have := hB; unfold zBd at this; omega
    have hg : ¬ zF a 0 = 1 := by show ¬ nI (a 0) = 1; rw [h00]; decide
    exact rd_of hE hb h0 h20 hx1 hx2 h1 h2 h3 h4 h5 h6 h7 hF hF' ⟨by omega, by omega, by omega, by omega, by omega, by omega⟩ (k_ballNumber_e1 l hE D cy (w 0) (w 30) F hW hN hX (rc_x hE h0 h1.1 (fun sz => t_X8_ballNumber_e l hE D cy (w 0) (w 1) (q 0) (w 3) (w 7) (w 8) t e1 e2 e3 e4 e5 a hL0 hX (by rw [h00]; rfl) sz))) (rm_21 hE h20 h1.2.1 (fun sz => c_X9_ballNumber_1 l hE D cy (w 20) (w 21) (w 22) (w 23) (w 24) (w 25) (w 26) (w 27) (w 28) (w 29) v1 (nI n) v3 v4 e1 (nI nn) (nI L) v8 v9 v10 v11 (zF a) hg sz)) (fun hk => absurd hk (by decide))
set_option maxRecDepth 100000 in
theorem s_multiplier (hE : zEok E) (hL0 : l.stackTraces = false) (hX : zOutX E) (hN : zOutN E) (hO : zOut E) (hb : b + 12 ≤ 20000) (h : zAll cy ad w t q s b f) : zKI l E D cy yL_multiplier cL_multiplier 3 [(0, 8, 11, 13)] yX9_multiplier cX9_multiplier 1 (some .int) Int32.toInt64 [] (w 0) (w 20) (w 30) (zWl f zLs) (zPo cy ad w t q s (b + 12)) := by
  obtain ⟨a, n, nn, L, e1, v1, ⟨e2, e3, e4, e5, v3, v4, v8, v9, v10, v11, h0, h20, hx1, hx2⟩, h1, h2, h3, h4, h5, h6, h7, ⟨F, hF⟩, ⟨F', hF'⟩⟩ := h
  have hB := h1.2.2.1
  have hI := h1.2.2
  have hW := hW_of h0 hF'
  by_cases hr : a 0 = 1
  · have hg : zF a 0 = 1 := by show nI (a 0) = 1; rw [hr]; rfl
    have hm5 : mU a = a 5 := by
      have : 1 ≤ a 5 := by have := hB; unfold zBd at this; omega
      unfold mU; rw [if_neg (by omega)]
    exact rd_of hE hb h0 h20 hx1 hx2 h1 h2 h3 h4 h5 h6 h7 hF hF' ⟨by omega, by omega, by omega, by omega, by omega, by omega⟩ (k_multiplier l hE D cy (w 0) (w 30) F hW (rc_i hE h0 h1.1 (fun sz => t_X8_multiplier l hE D cy (w 0) (w 1) (q 0) (w 3) (w 7) (w 8) t e1 e2 e3 e4 e5 a hB hr sz))) (rm_21 hE h20 h1.2.1 (fun sz => c_X9_multiplier_ok l hE D cy (w 20) (w 21) (w 22) (w 23) (w 24) (w 25) (w 26) (w 27) (w 28) (w 29) v1 (nI n) v3 v4 e1 (nI nn) (nI L) v8 v9 v10 v11 (zF a) hg sz)) (fun _ => by rw [hm5]; rfl)
  · have h00 : a 0 = 0 := by have := hB; unfold zBd at this; omega
    have hg : ¬ zF a 0 = 1 := by show ¬ nI (a 0) = 1; rw [h00]; decide
    exact rd_of hE hb h0 h20 hx1 hx2 h1 h2 h3 h4 h5 h6 h7 hF hF' ⟨by omega, by omega, by omega, by omega, by omega, by omega⟩ (k_multiplier_e1 l hE D cy (w 0) (w 30) F hW hN hX (rc_x hE h0 h1.1 (fun sz => t_X8_multiplier_e l hE D cy (w 0) (w 1) (q 0) (w 3) (w 7) (w 8) t e1 e2 e3 e4 e5 a hL0 hX (by rw [h00]; rfl) sz))) (rm_21 hE h20 h1.2.1 (fun sz => c_X9_multiplier_1 l hE D cy (w 20) (w 21) (w 22) (w 23) (w 24) (w 25) (w 26) (w 27) (w 28) (w 29) v1 (nI n) v3 v4 e1 (nI nn) (nI L) v8 v9 v10 v11 (zF a) hg sz)) (fun hk => absurd hk (by decide))
set_option maxRecDepth 100000 in
theorem s_completedBanks (hE : zEok E) (hL0 : l.stackTraces = false) (hX : zOutX E) (hN : zOutN E) (hO : zOut E) (hb : b + 12 ≤ 20000) (h : zAll cy ad w t q s b f) : zKI l E D cy yL_completedBanks cL_completedBanks 3 [(0, 8, 11, 13)] yX9_completedBanks cX9_completedBanks 1 (some .int) Int32.toInt64 [] (w 0) (w 20) (w 30) (zWl f zLs) (zPo cy ad w t q s (b + 12)) := by
  obtain ⟨a, n, nn, L, e1, v1, ⟨e2, e3, e4, e5, v3, v4, v8, v9, v10, v11, h0, h20, hx1, hx2⟩, h1, h2, h3, h4, h5, h6, h7, ⟨F, hF⟩, ⟨F', hF'⟩⟩ := h
  have hB := h1.2.2.1
  have hI := h1.2.2
  have hW := hW_of h0 hF'
  by_cases hr : a 0 = 1
  · have hg : zF a 0 = 1 := by show nI (a 0) = 1; rw [hr]; rfl
    exact rd_of hE hb h0 h20 hx1 hx2 h1 h2 h3 h4 h5 h6 h7 hF hF' ⟨by omega, by omega, by omega, by omega, by omega, by omega⟩ (k_completedBanks l hE D cy (w 0) (w 30) F hW (rc_i hE h0 h1.1 (fun sz => t_X8_completedBanks l hE D cy (w 0) (w 1) (q 0) (w 3) (w 7) (w 8) t e1 e2 e3 e4 e5 a hB hr sz))) (rm_21 hE h20 h1.2.1 (fun sz => c_X9_completedBanks_ok l hE D cy (w 20) (w 21) (w 22) (w 23) (w 24) (w 25) (w 26) (w 27) (w 28) (w 29) v1 (nI n) v3 v4 e1 (nI nn) (nI L) v8 v9 v10 v11 (zF a) hg sz)) (fun _ => rfl)
  · have h00 : a 0 = 0 := by have := hB; unfold zBd at this; omega
    have hg : ¬ zF a 0 = 1 := by show ¬ nI (a 0) = 1; rw [h00]; decide
    exact rd_of hE hb h0 h20 hx1 hx2 h1 h2 h3 h4 h5 h6 h7 hF hF' ⟨by omega, by omega, by omega, by omega, by omega, by omega⟩ (k_completedBanks_e1 l hE D cy (w 0) (w 30) F hW hN hX (rc_x hE h0 h1.1 (fun sz => t_X8_completedBanks_e l hE D cy (w 0) (w 1) (q 0) (w 3) (w 7) (w 8) t e1 e2 e3 e4 e5 a hL0 hX (by rw [h00]; rfl) sz))) (rm_21 hE h20 h1.2.1 (fun sz => c_X9_completedBanks_1 l hE D cy (w 20) (w 21) (w 22) (w 23) (w 24) (w 25) (w 26) (w 27) (w 28) (w 29) v1 (nI n) v3 v4 e1 (nI nn) (nI L) v8 v9 v10 v11 (zF a) hg sz)) (fun hk => absurd hk (by decide))
set_option maxRecDepth 100000 in
theorem s_bonusUnits (hE : zEok E) (hL0 : l.stackTraces = false) (hX : zOutX E) (hN : zOutN E) (hO : zOut E) (hb : b + 12 ≤ 20000) (h : zAll cy ad w t q s b f) : zKI l E D cy yL_bonusUnits cL_bonusUnits 3 [(0, 8, 11, 13)] yX9_bonusUnits cX9_bonusUnits 1 (some .int) Int32.toInt64 [] (w 0) (w 20) (w 30) (zWl f zLs) (zPo cy ad w t q s (b + 12)) := by
  obtain ⟨a, n, nn, L, e1, v1, ⟨e2, e3, e4, e5, v3, v4, v8, v9, v10, v11, h0, h20, hx1, hx2⟩, h1, h2, h3, h4, h5, h6, h7, ⟨F, hF⟩, ⟨F', hF'⟩⟩ := h
  have hB := h1.2.2.1
  have hI := h1.2.2
  have hW := hW_of h0 hF'
  by_cases hr : a 0 = 1
  · have hg : zF a 0 = 1 := by show nI (a 0) = 1; rw [hr]; rfl
    exact rd_of hE hb h0 h20 hx1 hx2 h1 h2 h3 h4 h5 h6 h7 hF hF' ⟨by omega, by omega, by omega, by omega, by omega, by omega⟩ (k_bonusUnits l hE D cy (w 0) (w 30) F hW (rc_i hE h0 h1.1 (fun sz => t_X8_bonusUnits l hE D cy (w 0) (w 1) (q 0) (w 3) (w 7) (w 8) t e1 e2 e3 e4 e5 a hB hr sz))) (rm_21 hE h20 h1.2.1 (fun sz => c_X9_bonusUnits_ok l hE D cy (w 20) (w 21) (w 22) (w 23) (w 24) (w 25) (w 26) (w 27) (w 28) (w 29) v1 (nI n) v3 v4 e1 (nI nn) (nI L) v8 v9 v10 v11 (zF a) hg sz)) (fun _ => rfl)
  · have h00 : a 0 = 0 := by have := hB; unfold zBd at this; omega
    have hg : ¬ zF a 0 = 1 := by show ¬ nI (a 0) = 1; rw [h00]; decide
    exact rd_of hE hb h0 h20 hx1 hx2 h1 h2 h3 h4 h5 h6 h7 hF hF' ⟨by omega, by omega, by omega, by omega, by omega, by omega⟩ (k_bonusUnits_e1 l hE D cy (w 0) (w 30) F hW hN hX (rc_x hE h0 h1.1 (fun sz => t_X8_bonusUnits_e l hE D cy (w 0) (w 1) (q 0) (w 3) (w 7) (w 8) t e1 e2 e3 e4 e5 a hL0 hX (by rw [h00]; rfl) sz))) (rm_21 hE h20 h1.2.1 (fun sz => c_X9_bonusUnits_1 l hE D cy (w 20) (w 21) (w 22) (w 23) (w 24) (w 25) (w 26) (w 27) (w 28) (w 29) v1 (nI n) v3 v4 e1 (nI nn) (nI L) v8 v9 v10 v11 (zF a) hg sz)) (fun hk => absurd hk (by decide))
set_option maxRecDepth 100000 in
theorem s_tiltMeter (hE : zEok E) (hL0 : l.stackTraces = false) (hX : zOutX E) (hN : zOutN E) (hO : zOut E) (hb : b + 12 ≤ 20000) (h : zAll cy ad w t q s b f) : zKI l E D cy yL_tiltMeter cL_tiltMeter 3 [(0, 8, 11, 13)] yX9_tiltMeter cX9_tiltMeter 1 (some .int) Int32.toInt64 [] (w 0) (w 20) (w 30) (zWl f zLs) (zPo cy ad w t q s (b + 12)) := by
  obtain ⟨a, n, nn, L, e1, v1, ⟨e2, e3, e4, e5, v3, v4, v8, v9, v10, v11, h0, h20, hx1, hx2⟩, h1, h2, h3, h4, h5, h6, h7, ⟨F, hF⟩, ⟨F', hF'⟩⟩ := h
  have hB := h1.2.2.1
  have hI := h1.2.2
  have hW := hW_of h0 hF'
  by_cases hr : a 0 = 1
  · have hg : zF a 0 = 1 := by show nI (a 0) = 1; rw [hr]; rfl
    exact rd_of hE hb h0 h20 hx1 hx2 h1 h2 h3 h4 h5 h6 h7 hF hF' ⟨by omega, by omega, by omega, by omega, by omega, by omega⟩ (k_tiltMeter l hE D cy (w 0) (w 30) F hW (rc_i hE h0 h1.1 (fun sz => t_X8_tiltMeter l hE D cy (w 0) (w 1) (q 0) (w 3) (w 7) (w 8) t e1 e2 e3 e4 e5 a hB hr sz))) (rm_21 hE h20 h1.2.1 (fun sz => c_X9_tiltMeter_ok l hE D cy (w 20) (w 21) (w 22) (w 23) (w 24) (w 25) (w 26) (w 27) (w 28) (w 29) v1 (nI n) v3 v4 e1 (nI nn) (nI L) v8 v9 v10 v11 (zF a) hg sz)) (fun _ => rfl)
  · have h00 : a 0 = 0 := by have := hB; unfold zBd at this; omega
    have hg : ¬ zF a 0 = 1 := by show ¬ nI (a 0) = 1; rw [h00]; decide
    exact rd_of hE hb h0 h20 hx1 hx2 h1 h2 h3 h4 h5 h6 h7 hF hF' ⟨by omega, by omega, by omega, by omega, by omega, by omega⟩ (k_tiltMeter_e1 l hE D cy (w 0) (w 30) F hW hN hX (rc_x hE h0 h1.1 (fun sz => t_X8_tiltMeter_e l hE D cy (w 0) (w 1) (q 0) (w 3) (w 7) (w 8) t e1 e2 e3 e4 e5 a hL0 hX (by rw [h00]; rfl) sz))) (rm_21 hE h20 h1.2.1 (fun sz => c_X9_tiltMeter_1 l hE D cy (w 20) (w 21) (w 22) (w 23) (w 24) (w 25) (w 26) (w 27) (w 28) (w 29) v1 (nI n) v3 v4 e1 (nI nn) (nI L) v8 v9 v10 v11 (zF a) hg sz)) (fun hk => absurd hk (by decide))
set_option maxRecDepth 100000 in
theorem s_warnings (hE : zEok E) (hL0 : l.stackTraces = false) (hX : zOutX E) (hN : zOutN E) (hO : zOut E) (hb : b + 12 ≤ 20000) (h : zAll cy ad w t q s b f) : zKI l E D cy yL_warnings cL_warnings 3 [(0, 8, 11, 13)] yX9_warnings cX9_warnings 1 (some .int) Int32.toInt64 [] (w 0) (w 20) (w 30) (zWl f zLs) (zPo cy ad w t q s (b + 12)) := by
  obtain ⟨a, n, nn, L, e1, v1, ⟨e2, e3, e4, e5, v3, v4, v8, v9, v10, v11, h0, h20, hx1, hx2⟩, h1, h2, h3, h4, h5, h6, h7, ⟨F, hF⟩, ⟨F', hF'⟩⟩ := h
  have hB := h1.2.2.1
  have hI := h1.2.2
  have hW := hW_of h0 hF'
  by_cases hr : a 0 = 1
  · have hg : zF a 0 = 1 := by show nI (a 0) = 1; rw [hr]; rfl
    exact rd_of hE hb h0 h20 hx1 hx2 h1 h2 h3 h4 h5 h6 h7 hF hF' ⟨by omega, by omega, by omega, by omega, by omega, by omega⟩ (k_warnings l hE D cy (w 0) (w 30) F hW (rc_i hE h0 h1.1 (fun sz => t_X8_warnings l hE D cy (w 0) (w 1) (q 0) (w 3) (w 7) (w 8) t e1 e2 e3 e4 e5 a hB hr sz))) (rm_21 hE h20 h1.2.1 (fun sz => c_X9_warnings_ok l hE D cy (w 20) (w 21) (w 22) (w 23) (w 24) (w 25) (w 26) (w 27) (w 28) (w 29) v1 (nI n) v3 v4 e1 (nI nn) (nI L) v8 v9 v10 v11 (zF a) hg sz)) (fun _ => rfl)
  · have h00 : a 0 = 0 := by have := hB; unfold zBd at this; omega
    have hg : ¬ zF a 0 = 1 := by show ¬ nI (a 0) = 1; rw [h00]; decide
    exact rd_of hE hb h0 h20 hx1 hx2 h1 h2 h3 h4 h5 h6 h7 hF hF' ⟨by omega, by omega, by omega, by omega, by omega, by omega⟩ (k_warnings_e1 l hE D cy (w 0) (w 30) F hW hN hX (rc_x hE h0 h1.1 (fun sz => t_X8_warnings_e l hE D cy (w 0) (w 1) (q 0) (w 3) (w 7) (w 8) t e1 e2 e3 e4 e5 a hL0 hX (by rw [h00]; rfl) sz))) (rm_21 hE h20 h1.2.1 (fun sz => c_X9_warnings_1 l hE D cy (w 20) (w 21) (w 22) (w 23) (w 24) (w 25) (w 26) (w 27) (w 28) (w 29) v1 (nI n) v3 v4 e1 (nI nn) (nI L) v8 v9 v10 v11 (zF a) hg sz)) (fun hk => absurd hk (by decide))
set_option maxRecDepth 100000 in
theorem s_hits (hE : zEok E) (hL0 : l.stackTraces = false) (hX : zOutX E) (hN : zOutN E) (hO : zOut E) (hb : b + 12 ≤ 20000) (h : zAll cy ad w t q s b f) : zKI l E D cy yL_hits cL_hits 3 [(0, 8, 11, 13)] yX9_hits cX9_hits 1 (some .int) Int32.toInt64 [] (w 0) (w 20) (w 30) (zWl f zLs) (zPo cy ad w t q s (b + 12)) := by
  obtain ⟨a, n, nn, L, e1, v1, ⟨e2, e3, e4, e5, v3, v4, v8, v9, v10, v11, h0, h20, hx1, hx2⟩, h1, h2, h3, h4, h5, h6, h7, ⟨F, hF⟩, ⟨F', hF'⟩⟩ := h
  have hB := h1.2.2.1
  have hI := h1.2.2
  have hW := hW_of h0 hF'
  by_cases hr : a 0 = 1
  · have hg : zF a 0 = 1 := by show nI (a 0) = 1; rw [hr]; rfl
    exact rd_of hE hb h0 h20 hx1 hx2 h1 h2 h3 h4 h5 h6 h7 hF hF' ⟨by omega, by omega, by omega, by omega, by omega, by omega⟩ (k_hits l hE D cy (w 0) (w 30) F hW (rc_i hE h0 h1.1 (fun sz => t_X8_hits l hE D cy (w 0) (w 1) (q 0) (w 3) (w 7) (w 8) t e1 e2 e3 e4 e5 a hB hr sz))) (rm_21 hE h20 h1.2.1 (fun sz => c_X9_hits_ok l hE D cy (w 20) (w 21) (w 22) (w 23) (w 24) (w 25) (w 26) (w 27) (w 28) (w 29) v1 (nI n) v3 v4 e1 (nI nn) (nI L) v8 v9 v10 v11 (zF a) hg sz)) (fun _ => rfl)
  · have h00 : a 0 = 0 := by have := hB; unfold zBd at this; omega
    have hg : ¬ zF a 0 = 1 := by show ¬ nI (a 0) = 1; rw [h00]; decide
    exact rd_of hE hb h0 h20 hx1 hx2 h1 h2 h3 h4 h5 h6 h7 hF hF' ⟨by omega, by omega, by omega, by omega, by omega, by omega⟩ (k_hits_e1 l hE D cy (w 0) (w 30) F hW hN hX (rc_x hE h0 h1.1 (fun sz => t_X8_hits_e l hE D cy (w 0) (w 1) (q 0) (w 3) (w 7) (w 8) t e1 e2 e3 e4 e5 a hL0 hX (by rw [h00]; rfl) sz))) (rm_21 hE h20 h1.2.1 (fun sz => c_X9_hits_1 l hE D cy (w 20) (w 21) (w 22) (w 23) (w 24) (w 25) (w 26) (w 27) (w 28) (w 29) v1 (nI n) v3 v4 e1 (nI nn) (nI L) v8 v9 v10 v11 (zF a) hg sz)) (fun hk => absurd hk (by decide))
end SEM
