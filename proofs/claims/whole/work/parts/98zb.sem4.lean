section SEM
variable {l : Launch} {E : zEn} {D : zG} {cy : Nat → ClassId} {ad w t q : Nat → Nat} {s : Nat → Nat → Nat} {b : Nat} {f : Nat → va_W}
set_option maxHeartbeats 400000 in
set_option maxRecDepth 100000 in
theorem s_meanScore (hE : zEok E) (hL0 : l.stackTraces = false) (hX : zOutX E) (hN : zOutN E) (hO : zOut E) (hb : b + 12 ≤ 20000) (h : zAll cy ad w t q s b f) : zKD l E D cy yL_meanScore cL_meanScore 3 [(0, 7, 10, 129)] yX9_meanScore cX9_meanScore 4 (w 0) (w 20) (w 31) (zWl f zLs) (zPo cy ad w t q s (b + 12)) := by
  obtain ⟨a, n, nn, L, e1, v1, ⟨e2, e3, e4, e5, v3, v4, v8, v9, v10, v11, h0, h20, hx1, hx2⟩, h1, h2, h3, h4, h5, h6, h7, ⟨F, hF⟩, ⟨F', hF'⟩⟩ := h
  have hB := h1.2.2.1
  have hI := h1.2.2
  have hW := hW_of h0 hF'
  have ha2 : a 2 ≤ 4 := by have := hB; unfold zBd at this; omega
  have ha14 : a 14 < 2 ^ 24 := by have := hB; unfold zBd at this; omega
  have hW2 := zT2_w hF h0
  have h9 := fun sz : Nat => c_X9_meanScore l hE D cy (w 20) (w 21) (w 22) (w 23) (w 24) (w 25) (w 26) (w 27) (w 28) (w 29) v1 (nI n) v3 v4 e1 (nI nn) (nI L) v8 v9 v10 v11 a ha2 sz
  by_cases hz : a 2 = 0
  · have hz' : nI (a 2) = 0 := by rw [hz]; rfl
    rw [if_pos hz', if_pos hz'] at h9
    exact rdd_of hE hb h0 h20 hx1 hx2 h1 h2 h3 h4 h5 h6 h7 hF hF' ⟨by omega, by omega, by omega, by omega, by omega, by omega⟩ (k_meanScore_e1 l hE D cy (w 0) (w 31) F' hW2 hN hX (rcT_x hE h0 h1.1 (fun sz => c_X8_meanScore_e l hE D cy hL0 hX (w 0) (w 1) (q 0) (w 3) (w 7) (w 8) t e1 e2 e3 e4 e5 a hz sz))) h9 (fun hk => absurd hk (by decide))
  · have hz' : ¬ nI (a 2) = 0 := by
      rw [lI0, nI_eq (by omega) (by omega)]; exact hz
    rw [if_neg hz', if_neg hz'] at h9
    exact rdd_of hE hb h0 h20 hx1 hx2 h1 h2 h3 h4 h5 h6 h7 hF hF' ⟨by omega, by omega, by omega, by omega, by omega, by omega⟩ (k_meanScore l hE D cy (w 0) (w 31) F' hW2 (rcT_i hE h0 h1.1 (fun sz => c_X8_meanScore l hE D cy (w 0) (w 1) (q 0) (w 3) (w 7) (w 8) t e1 e2 e3 e4 e5 a (by omega) ha2 sz))) h9 (fun _ => ⟨fp_mean _ (by omega) ha2, rfl⟩)
set_option maxHeartbeats 400000 in
set_option maxRecDepth 100000 in
theorem s_tiltRate (hE : zEok E) (hL0 : l.stackTraces = false) (hX : zOutX E) (hN : zOutN E) (hO : zOut E) (hb : b + 12 ≤ 20000) (h : zAll cy ad w t q s b f) : zKF l E D cy yL_tiltRate cL_tiltRate 3 [(0, 8, 11, 129)] yX9_tiltRate cX9_tiltRate 1 (w 0) (w 20) (w 31) (zWl f zLs) (zPo cy ad w t q s (b + 12)) := by
  obtain ⟨a, n, nn, L, e1, v1, ⟨e2, e3, e4, e5, v3, v4, v8, v9, v10, v11, h0, h20, hx1, hx2⟩, h1, h2, h3, h4, h5, h6, h7, ⟨F, hF⟩, ⟨F', hF'⟩⟩ := h
  have hB := h1.2.2.1
  have hI := h1.2.2
  have hW := hW_of h0 hF'
  have ha2 : a 2 ≤ 4 := by have := hB; unfold zBd at this; omega
  have ha14 : a 14 < 2 ^ 24 := by have := hB; unfold zBd at this; omega
  have hW2 := zT2_w hF h0
  have h9 := fun sz : Nat => c_X9_tiltRate l hE D cy (w 20) (w 21) (w 22) (w 23) (w 24) (w 25) (w 26) (w 27) (w 28) (w 29) v1 (nI n) v3 v4 e1 (nI nn) (nI L) v8 v9 v10 v11 a ha14 sz
  by_cases hz : a 14 = 0
  · have hz' : nI (a 14) = 0 := by rw [hz]; rfl
    rw [if_pos hz', if_pos hz'] at h9
    exact rdf_of hE hb h0 h20 hx1 hx2 h1 h2 h3 h4 h5 h6 h7 hF hF' ⟨by omega, by omega, by omega, by omega, by omega, by omega⟩ (k_tiltRate_e1 l hE D cy (w 0) (w 31) F' hW2 hN hX (rcT_x hE h0 h1.1 (fun sz => c_X8_tiltRate_e l hE D cy hL0 hX (w 0) (w 1) (q 0) (w 3) (w 7) (w 8) t e1 e2 e3 e4 e5 a hz sz))) h9 (fun hk => absurd hk (by decide))
  · have hz' : ¬ nI (a 14) = 0 := by
      rw [lI0, nI_eq (by omega) (by omega)]; exact hz
    rw [if_neg hz', if_neg hz'] at h9
    exact rdf_of hE hb h0 h20 hx1 hx2 h1 h2 h3 h4 h5 h6 h7 hF hF' ⟨by omega, by omega, by omega, by omega, by omega, by omega⟩ (k_tiltRate l hE D cy (w 0) (w 31) F' hW2 (fp_f2d (fp_rate (by omega) ha14)) (rcT_f hE h0 h1.1 (fun sz => c_X8_tiltRate l hE D cy (w 0) (w 1) (q 0) (w 3) (w 7) (w 8) t e1 e2 e3 e4 e5 a (by omega) ha14 sz))) h9 (fun _ => ⟨fp_f2d (fp_rate (by omega) ha14), rfl⟩)
set_option maxHeartbeats 400000 in
set_option maxRecDepth 100000 in
theorem s_errorPosition (hE : zEok E) (hL0 : l.stackTraces = false) (hX : zOutX E) (hN : zOutN E) (hO : zOut E) (hb : b + 12 ≤ 20000) (h : zAll cy ad w t q s b f) : zKI l E D cy yL_errorPosition cL_errorPosition 3 [(0, 8, 11, 18)] yX9_errorPosition cX9_errorPosition 1 (some .int) Int32.toInt64 [] (w 0) (w 20) (w 30) (zWl f zLs) (zPo cy ad w t q s (b + 12)) := by
  obtain ⟨a, n, nn, L, e1, v1, ⟨e2, e3, e4, e5, v3, v4, v8, v9, v10, v11, h0, h20, hx1, hx2⟩, h1, h2, h3, h4, h5, h6, h7, ⟨F, hF⟩, ⟨F', hF'⟩⟩ := h
  have hB := h1.2.2.1
  have hI := h1.2.2
  have hW := hW_of h0 hF'
  have h9 := fun sz : Nat => c_X9_errorPosition l hE D cy (w 20) (w 21) (w 22) (w 23) (w 24) (w 25) (w 26) (w 27) (w 28) (w 29) v1 (nI n) v3 v4 e1 (nI nn) (nI L) v8 v9 v10 v11 sz
  rcases id hx1 with ⟨z1, z2⟩ | ⟨z1, z2, m, hm, z3⟩
  · rw [show n_X9_errorPosition v3 = (0, 1) by rw [z2]; rfl] at h9
    exact rd_of hE hb h0 h20 hx1 hx2 h1 h2 h3 h4 h5 h6 h7 hF hF' ⟨by omega, by omega, by omega, by omega, by omega, by omega⟩ (k_errorPosition_e1 l hE D cy (w 0) (w 30) F hW hN hX (rc_x0 hE h0 (fun sz => t_X8_errorPosition_e l hE D cy (w 0) (w 1) (q 0) (w 3) (w 7) (w 8) t e1 e2 e3 e4 e5 hL0 hX z1 sz))) (rm_20 hE h20 h9) (fun hk => absurd hk (by decide))
  · have e9 : n_X9_errorPosition v3 = (e3, 0) := by
      have h0m : (0 : Int32) ≤ nI m := (nI_leI (a := 0) (by omega) (by omega)).mpr (Nat.zero_le _)
      rw [z2, z3]
      unfold n_X9_errorPosition n_X9_present
      rw [if_pos h0m]
    rw [e9] at h9
    exact rd_of hE hb h0 h20 hx1 hx2 h1 h2 h3 h4 h5 h6 h7 hF hF' ⟨by omega, by omega, by omega, by omega, by omega, by omega⟩ (k_errorPosition l hE D cy (w 0) (w 30) F hW (rc_i0 hE h0 (fun sz => c_X8_errorPosition l hE D cy (w 0) (w 1) (q 0) (w 3) (w 7) (w 8) (t 0) e1 e2 e3 e4 e5 (by rw [z1]; decide) sz))) (rm_20 hE h20 h9) (fun _ => rfl)
set_option maxHeartbeats 400000 in
set_option maxRecDepth 100000 in
theorem s_failedCommand (hE : zEok E) (hL0 : l.stackTraces = false) (hX : zOutX E) (hN : zOutN E) (hO : zOut E) (hb : b + 12 ≤ 20000) (h : zAll cy ad w t q s b f) : zKI l E D cy yL_failedCommand cL_failedCommand 3 [(0, 8, 11, 18)] yX9_failedCommand cX9_failedCommand 1 (some .int) Int32.toInt64 [] (w 0) (w 20) (w 30) (zWl f zLs) (zPo cy ad w t q s (b + 12)) := by
  obtain ⟨a, n, nn, L, e1, v1, ⟨e2, e3, e4, e5, v3, v4, v8, v9, v10, v11, h0, h20, hx1, hx2⟩, h1, h2, h3, h4, h5, h6, h7, ⟨F, hF⟩, ⟨F', hF'⟩⟩ := h
  have hB := h1.2.2.1
  have hI := h1.2.2
  have hW := hW_of h0 hF'
  have h9 := fun sz : Nat => c_X9_failedCommand l hE D cy (w 20) (w 21) (w 22) (w 23) (w 24) (w 25) (w 26) (w 27) (w 28) (w 29) v1 (nI n) v3 v4 e1 (nI nn) (nI L) v8 v9 v10 v11 sz
  rcases id hx2 with ⟨z1, z2⟩ | ⟨z1, z2, m, hm, z3⟩
  · rw [show n_X9_failedCommand v4 = (0, 1) by rw [z2]; rfl] at h9
    exact rd_of hE hb h0 h20 hx1 hx2 h1 h2 h3 h4 h5 h6 h7 hF hF' ⟨by omega, by omega, by omega, by omega, by omega, by omega⟩ (k_failedCommand_e1 l hE D cy (w 0) (w 30) F hW hN hX (rc_x0 hE h0 (fun sz => t_X8_failedCommand_e l hE D cy (w 0) (w 1) (q 0) (w 3) (w 7) (w 8) t e1 e2 e3 e4 e5 hL0 hX z1 sz))) (rm_20 hE h20 h9) (fun hk => absurd hk (by decide))
  · have e9 : n_X9_failedCommand v4 = (e5, 0) := by
      have h0m : (0 : Int32) ≤ nI m := (nI_leI (a := 0) (by omega) (by omega)).mpr (Nat.zero_le _)
      rw [z2, z3]
      unfold n_X9_failedCommand n_X9_present
      rw [if_pos h0m]
    rw [e9] at h9
    exact rd_of hE hb h0 h20 hx1 hx2 h1 h2 h3 h4 h5 h6 h7 hF hF' ⟨by omega, by omega, by omega, by omega, by omega, by omega⟩ (k_failedCommand l hE D cy (w 0) (w 30) F hW (rc_i0 hE h0 (fun sz => c_X8_failedCommand l hE D cy (w 0) (w 1) (q 0) (w 3) (w 7) (w 8) (t 0) e1 e2 e3 e4 e5 (by rw [z1]; decide) sz))) (rm_20 hE h20 h9) (fun _ => rfl)
end SEM
