/-! undo, the snapshot, the next player, the typed text -/
theorem zAr_sm {cy : Nat → ClassId} {x n : Nat} {g g' : Nat → Int32} (h : ∀ j, j < n → g j = g' j) : zSm (zAr cy x n g) (zAr cy x n g') := ⟨zSm_arr h, trivial⟩
theorem cp_at {g gb : Nat → Int32} {j : Nat} (hj : j < 64) : n_X9_copy g gb 0 0 j = g j := by
  rw [hcp, if_pos ⟨Nat.zero_le _, by omega⟩]
  rfl
section SEM
variable {l : Launch} {E : zEn} {D : zG} {cy : Nat → ClassId} {ad w t q : Nat → Nat} {s : Nat → Nat → Nat} {b : Nat} {f : Nat → va_W}
set_option maxHeartbeats 800000 in
set_option maxRecDepth 100000 in
theorem s_undo (hE : zEok E) (hL0 : l.stackTraces = false) (hX : zOutX E) (hN : zOutN E) (hO : zOut E) (hb : b + 12 ≤ 20000) (h : zAll cy ad w t q s b f) : zKI l E D cy yL_undo cL_undo 3 [(0, 8, 11, 18)] yX9_undo cX9_undo 1 (some .int) Int32.toInt64 [] (w 0) (w 20) (w 30) (zWl f zLs) (zPo cy ad w t q s (b + 12)) := by
  obtain ⟨a, n, nn, L, e1, v1, ⟨e2, e3, e4, e5, v3, v4, v8, v9, v10, v11, h0, h20, hx1, hx2⟩, h1, h2, h3, h4, h5, h6, h7, ⟨F, hF⟩, ⟨F', hF'⟩⟩ := h
  have hB := h1.2.2.1
  have hI := h1.2.2
  have hW := hW_of h0 hF'
  obtain ⟨kf, cs, hs, sa, gh, hkf, hn, g2, g3, g4, g5, g6, g7, g8⟩ := id h2
  by_cases hz : n = 0
  · have hz' : nI n = 0 := by rw [hz]; rfl
    have h9 := fun sz : Nat => c_X9_undo_1 l hE D cy (w 20) (w 21) (w 22) (w 23) (w 24) (w 25) (w 26) (w 27) (w 28) (w 29) v1 (nI n) v3 v4 e1 (nI nn) (nI L) v8 v9 v10 v11 (zF a) gh hz' (zle_I hn (by omega)) sz
    exact rd_of hE hb h0 h20 hx1 hx2 h1 h2 h3 h4 h5 h6 h7 hF hF' ⟨by omega, by omega, by omega, by omega, by omega, by omega⟩ (k_undo_e1 l hE D cy (w 0) (w 30) F hW hN hX (L_x (ins := [0, 2]) (f' := f) hE (fun sz => t_X8_undo_e l hE D cy (w 0) (w 1) (q 0) (w 3) (w 7) (w 8) t e1 e2 e3 e4 e5 hL0 hX (w 2) (nI kf) kf (nI n) sa (zi_i kf) hkf hz' sz) zTl_nd (by decide) (by decide) (by rw [zWl2, h0, g2]; rfl) (by rw [zWl2, h0, g2]; rfl) (fun _ _ _ => rfl))) (rm_i (ins := [20, 21, 25]) hE h9 (by decide) (by decide) (by decide) (by rw [zWl3]; show f 20 ++ f 21 ++ f 25 = _; rw [h20, h1.2.1, g5]; rfl) (by rw [zWl3]; show _ ++ f 21 ++ f 25 = _; rw [h1.2.1, g5]; rfl)) (fun hk => absurd hk (by decide))
  · have hz0 : 0 < n := by omega
    have hz' : ¬ nI n = 0 := by rw [lI0, nI_eq (by omega) (by omega)]; exact hz
    obtain ⟨kk, hkk⟩ : ∃ kk, kk = (kf + 9 - 1) % 9 := ⟨_, rfl⟩
    have hk8 : kk ≤ 8 := by omega
    obtain ⟨r1, r2⟩ := r_undo hkf hz0 hn g7
    rw [← hkk] at r1 r2
    obtain ⟨u1, u2, u3, u4, u5⟩ := h_undo hz0 hn (g := zF a) g6
    have hI2 : zInv b (cs kk) := by rw [r1]; exact g8 (n - 1) (by omega)
    have hcl := fun sz : Nat => t_X8_undo l hE D cy hO (w 0) (w 1) (q 0) (w 3) (w 7) (w 2) (w 8) t (s kk) e1 e2 e3 e4 e5 a (cs kk) hI2.1 kf n hkf hz0 hn sa (by rw [← hkk]; exact g3 kk (by omega)) sz
    rw [← hkk] at hcl
    have hm : ∀ sz, Met l yX9_undo _ _ _ (zQi D (zMo w 0 (nI (n - 1)) v3 v4 e1 (nI nn) (nI L) v8 v9 v10 v11 ++ zAr cy (w 21) 64 (zF (cs kk)) ++ zAr cy (w 25) 512 gh) _ (nI (n - 1))) _ _ _ := fun sz => z_wkI (c_X9_undo_ok l hE D cy (w 20) (w 21) (w 22) (w 23) (w 24) (w 25) (w 26) (w 27) (w 28) (w 29) v1 (nI n) v3 v4 e1 (nI nn) (nI L) v8 v9 v10 v11 (zF a) gh hz' (by rw [zn_I (by omega)]; exact hz0) (zle_I hn (by omega)) sz) (by
      show zSm (zMo w (n_X9_undo_ok (nI n) (zF a) gh).2.1 (n_X9_undo_ok (nI n) (zF a) gh).2.2.1 v3 v4 e1 (nI nn) (nI L) v8 v9 v10 v11 ++ zAr cy (w 21) 64 (n_X9_undo_ok (nI n) (zF a) gh).2.2.2 ++ zAr cy (w 25) 512 gh) _
      rw [u2, u3]
      exact zSm_app (zSm_app (zSm_rf _) (zAr_sm (fun j hj => by rw [u4 j hj, r1]; rfl))) (zSm_rf _)) u1
    generalize hf1 : cu (cu (cu f (10 + kk) (zTab cy (s kk) (cs kk))) 2 (zHis cy (w 1) (w 2) (nI kk) (nI (n - 1)) sa)) 1 (zTab cy t (cs kk)) = f1
    have hc1 := oc_i hE hk8 h0 h1.1 g2 (g4 kk (by omega)) hcl rfl
    rw [hf1] at hc1
    have o1 : ∀ j, j ≠ 1 → j ≠ 2 → j ≠ 10 + kk → f1 j = f j := fun j c1 c2 c3 => by rw [← hf1, cu_n c1, cu_n c2, cu_n c3]
    have p1 : f1 1 = zTab cy t (cs kk) := by rw [← hf1, cu_s]
    have p2 : f1 2 = zHis cy (w 1) (w 2) (nI kk) (nI (n - 1)) sa := by rw [← hf1, cu_n (show 2 ≠ 1 by omega), cu_s]
    have p3 : f1 (10 + kk) = zTab cy (s kk) (cs kk) := by rw [← hf1, cu_n (show 10 + kk ≠ 1 by omega), cu_n (show 10 + kk ≠ 2 by omega), cu_s]
    generalize hF1 : vp_updL F 0 (nI (n - 1)).toInt64 = F1
    have hF10 : F1 0 = (nI (n - 1)).toInt64 := by rw [← hF1]; rfl
    have hkw := k_undo l hE D cy (w 0) (w 30) F hW hc1
    rw [hF1] at hkw
    have q0 : f1 0 = zOb w t q e1 e2 e3 e4 e5 := (o1 0 (by omega) (by omega) (by omega)).trans h0
    have q31 : f1 31 = zOd cy (w 31) F' := (o1 31 (by omega) (by omega) (by omega)).trans hF'
    have qo : ∀ j, 20 ≤ j → j ≤ 29 → f1 j = f j := fun j j1 j2 => o1 j (by omega) (by omega) (by omega)
    refine zKI_of (F1 := F1) (f1 := f1) (f2 := cu f1 30 (zOl cy (w 30) F1)) (f3 := cu (cu (cu f1 30 (zOl cy (w 30) F1)) 21 (zAr cy (w 21) 64 (zF (cs kk)))) 20 (zMo w 0 (nI (n - 1)) v3 v4 e1 (nI nn) (nI L) v8 v9 v10 v11)) hE hF ⟨by omega, by omega, by omega, by omega, by omega, by omega⟩ hkw rfl ((qo 20 (by omega) (by omega)).trans h20) (L_i (ins := [20, 21, 25]) hE hm zLs_nd (by decide) (by decide) ?_ ?_ ?_) cu_s rfl ⟨F', q31⟩ ⟨_, _, _, _, _, _, _, q0⟩ ⟨F', q31⟩ ⟨_, _, _, _, _, _, _, q0⟩ (fun _ => hF10) ⟨_, rfl, cs kk, n - 1, nn, L, e1, 0, ⟨e2, e3, e4, e5, v3, v4, v8, v9, v10, v11, q0, cu_s, hx1, hx2⟩, ⟨p1, rfl, in_up hI2 (by omega) hb⟩, ⟨kk, cs, hs, sa, gh, hk8, by omega, p2, g3, ?_, (qo 25 (by omega) (by omega)).trans g5, u5, r2, fun i hi => in_up (g8 i (by omega)) (by omega) hb⟩, h3.go (by omega) hb ⟨o1 3 (by omega) (by omega) (by omega), qo 24 (by omega) (by omega)⟩, h4.go (o1 4 (by omega) (by omega) (by omega)), h5.go ⟨o1 5 (by omega) (by omega) (by omega), qo 26 (by omega) (by omega)⟩, h6.go ⟨o1 6 (by omega) (by omega) (by omega), qo 27 (by omega) (by omega), qo 28 (by omega) (by omega), qo 29 (by omega) (by omega)⟩, h7.go ⟨qo 22 (by omega) (by omega), qo 23 (by omega) (by omega)⟩, ⟨F1, rfl⟩, ⟨F', q31⟩⟩
    · rw [zWl3]
      show f1 20 ++ f1 21 ++ f1 25 = _
      rw [qo 20 (by omega) (by omega), qo 21 (by omega) (by omega), qo 25 (by omega) (by omega), h20, h1.2.1, g5]
      rfl
    · rw [zWl3]
      show _ ++ _ ++ f1 25 = _
      rw [qo 25 (by omega) (by omega), g5]
      rfl
    · intro k _ hk
      simp only [List.mem_cons, List.not_mem_nil, or_false, not_or] at hk
      rw [cu_n hk.1, cu_n hk.2.1]
    · intro k hk
      rw [cu_n (by omega), cu_n (by omega), cu_n (by omega)]
      by_cases c : k = kk
      · rw [c]; exact p3
      · rw [o1 (10 + k) (by omega) (by omega) (by omega)]; exact g4 k hk
set_option maxHeartbeats 800000 in
set_option maxRecDepth 100000 in
theorem s_restore (hE : zEok E) (hL0 : l.stackTraces = false) (hX : zOutX E) (hN : zOutN E) (hO : zOut E) (hb : b + 12 ≤ 20000) (h : zAll cy ad w t q s b f) : zKI l E D cy yL_restore cL_restore 3 [(0, 8, 11, 13)] yX9_restore cX9_restore 1 (some .int) Int32.toInt64 [] (w 0) (w 20) (w 30) (zWl f zLs) (zPo cy ad w t q s (b + 12)) := by
  obtain ⟨a, n, nn, L, e1, v1, ⟨e2, e3, e4, e5, v3, v4, v8, v9, v10, v11, h0, h20, hx1, hx2⟩, h1, h2, h3, h4, h5, h6, h7, ⟨F, hF⟩, ⟨F', hF'⟩⟩ := h
  have hB := h1.2.2.1
  have hI := h1.2.2
  have hW := hW_of h0 hF'
  obtain ⟨kf, cs, hs, sa, gh, hkf, hn, g2, g3, g4, g5, g6, g7, g8⟩ := id h2
  obtain ⟨h01, a3, gs, k3, k24, hsn⟩ := id h3
  rcases h01 with hz | hz
  · have h9 := fun sz : Nat => c_X9_restore_1 l hE D cy (w 20) (w 21) (w 22) (w 23) (w 24) (w 25) (w 26) (w 27) (w 28) (w 29) v1 (nI n) v3 v4 e1 (nI nn) (nI L) v8 v9 v10 v11 (zF a) gs hz sz
    exact rd_of hE hb h0 h20 hx1 hx2 h1 h2 h3 h4 h5 h6 h7 hF hF' ⟨by omega, by omega, by omega, by omega, by omega, by omega⟩ (k_restore_e1 l hE D cy (w 0) (w 30) F hW hN hX (rc_x0 hE h0 (fun sz => t_X8_restore_e l hE D cy (w 0) (w 1) (q 0) (w 3) (w 7) (w 8) t e1 e2 e3 e4 e5 hL0 hX hz sz))) (rm_i (ins := [20, 21, 24]) hE h9 (by decide) (by decide) (by decide) (by rw [zWl3]; show f 20 ++ f 21 ++ f 24 = _; rw [h20, h1.2.1, k24]; rfl) (by rw [zWl3]; show _ ++ f 21 ++ f 24 = _; rw [h1.2.1, k24]; rfl)) (fun hk => absurd hk (by decide))
  · have hz' : ¬ e1 = 0 := by rw [hz]; decide
    obtain ⟨hI3, hgs⟩ := hsn hz
    have hcl := fun sz : Nat => t_X8_restore l hE D cy hO (w 0) (w 1) (w 2) (w 3) (w 7) (w 8) t q e1 e2 e3 e4 e5 hz' a a3 hI3.1 kf n hkf hn sa sz
    have hm : ∀ sz, Met l yX9_restore _ _ _ (zQi D (zMo w 0 (nI 0) v3 v4 e1 (nI nn) (nI L) v8 v9 v10 v11 ++ zAr cy (w 21) 64 (zF a3) ++ zAr cy (w 24) 64 gs) _ (nI (a3 2))) _ _ _ := fun sz => z_wkI (c_X9_restore_ok l hE D cy (w 20) (w 21) (w 22) (w 23) (w 24) (w 25) (w 26) (w 27) (w 28) (w 29) v1 (nI n) v3 v4 e1 (nI nn) (nI L) v8 v9 v10 v11 (zF a) gs hz' sz) (by
      show zSm (zMo w 0 (nI 0) v3 v4 e1 (nI nn) (nI L) v8 v9 v10 v11 ++ zAr cy (w 21) 64 (n_X9_copy gs (zF a) 0 0) ++ zAr cy (w 24) 64 gs) _
      exact zSm_app (zSm_app (zSm_rf _) (zAr_sm (fun j hj => by rw [cp_at hj, hgs j hj]; rfl))) (zSm_rf _)) (by
      show n_X9_copy gs (zF a) 0 0 2 = _
      rw [cp_at (by omega), hgs 2 (by omega)])
    have hc1 := fun sz : Nat => L_i (ins := [0, 1, 3, 2]) (f := f) (f' := cu (cu f 2 (zHis cy (w 1) (w 2) (nI kf) (nI 0) sa)) 1 (zTab cy t a3)) hE hcl zTl_nd (by decide) (by decide) (by rw [zWl4, h0, h1.1, k3, g2]; rfl) (by rw [zWl4]; show f 0 ++ _ ++ f 3 ++ _ = _; rw [h0, k3]; rfl) (fun k _ hk => by
      simp only [List.mem_cons, List.not_mem_nil, or_false, not_or] at hk
      rw [cu_n hk.2.1, cu_n hk.2.2.2]) sz
    refine zKI_of (F1 := vp_updL F 0 (nI (a3 2)).toInt64) (f1 := cu (cu f 2 (zHis cy (w 1) (w 2) (nI kf) (nI 0) sa)) 1 (zTab cy t a3)) (f3 := cu (cu (cu (cu (cu f 2 (zHis cy (w 1) (w 2) (nI kf) (nI 0) sa)) 1 (zTab cy t a3)) 30 (zOl cy (w 30) (vp_updL F 0 (nI (a3 2)).toInt64))) 21 (zAr cy (w 21) 64 (zF a3))) 20 (zMo w 0 (nI 0) v3 v4 e1 (nI nn) (nI L) v8 v9 v10 v11)) hE hF ⟨by omega, by omega, by omega, by omega, by omega, by omega⟩ (k_restore l hE D cy (w 0) (w 30) F hW hc1) rfl h20 (L_i (ins := [20, 21, 24]) hE hm zLs_nd (by decide) (by decide) ?_ ?_ ?_) cu_s rfl ⟨F', hF'⟩ ⟨_, _, _, _, _, _, _, h0⟩ ⟨F', hF'⟩ ⟨_, _, _, _, _, _, _, h0⟩ (fun _ => rfl) ⟨_, rfl, a3, 0, nn, L, e1, 0, ⟨e2, e3, e4, e5, v3, v4, v8, v9, v10, v11, h0, cu_s, hx1, hx2⟩, ⟨rfl, rfl, in_up hI3 (by omega) hb⟩, ⟨kf, cs, hs, sa, gh, hkf, by omega, rfl, g3, ?_, g5, fun i hi => absurd hi (Nat.not_lt_zero _), fun i hi => absurd hi (Nat.not_lt_zero _), fun i hi => absurd hi (Nat.not_lt_zero _)⟩, h3.go (by omega) hb ⟨rfl, rfl⟩, h4.go rfl, h5.go ⟨rfl, rfl⟩, h6.go ⟨rfl, rfl, rfl, rfl⟩, h7.go ⟨rfl, rfl⟩, ⟨_, rfl⟩, ⟨F', hF'⟩⟩
    · rw [zWl3]
      show f 20 ++ f 21 ++ f 24 = _
      rw [h20, h1.2.1, k24]
      rfl
    · rw [zWl3]
      show _ ++ _ ++ f 24 = _
      rw [k24]
      rfl
    · intro k _ hk
      simp only [List.mem_cons, List.not_mem_nil, or_false, not_or] at hk
      rw [cu_n hk.1, cu_n hk.2.1]
    · intro k hk
      rw [cu_n (by omega), cu_n (by omega), cu_n (by omega), cu_n (by omega), cu_n (by omega)]
      exact g4 k hk
set_option maxHeartbeats 800000 in
set_option maxRecDepth 100000 in
theorem s_save (hE : zEok E) (hL0 : l.stackTraces = false) (hX : zOutX E) (hN : zOutN E) (hO : zOut E) (hb : b + 12 ≤ 20000) (h : zAll cy ad w t q s b f) : zKP l E D cy yX8_save cX8_save 1 (some .int) yX9_save cX9_save 1 (some .int) (w 0) (w 20) (zWl f zLs) (zPo cy ad w t q s (b + 12)) := by
  obtain ⟨a, n, nn, L, e1, v1, ⟨e2, e3, e4, e5, v3, v4, v8, v9, v10, v11, h0, h20, hx1, hx2⟩, h1, h2, h3, h4, h5, h6, h7, ⟨F, hF⟩, ⟨F', hF'⟩⟩ := h
  have hB := h1.2.2.1
  have hI := h1.2.2
  have hW := hW_of h0 hF'
  obtain ⟨h01, a3, gs, k3, k24, hsn⟩ := id h3
  have hcl := fun sz : Nat => t_X8_save l hE D cy hO (w 0) (w 1) (w 3) (w 7) (w 8) t q e1 e2 e3 e4 e5 a a3 hB sz
  have hm := fun sz : Nat => c_X9_save l hE D cy (w 20) (w 21) (w 22) (w 23) (w 24) (w 25) (w 26) (w 27) (w 28) (w 29) v1 (nI n) v3 v4 e1 (nI nn) (nI L) v8 v9 v10 v11 (zF a) gs sz
  refine ⟨nI (a 2), zWl (cu (cu f 3 (zTab cy q a)) 0 (zOb w t q 1 e2 e3 e4 e5)) zLs, zWl (cu (cu (cu (cu f 3 (zTab cy q a)) 0 (zOb w t q 1 e2 e3 e4 e5)) 24 (zAr cy (w 24) 64 (n_X9_copy (zF a) gs 0 0))) 20 (zMo w 0 (nI n) v3 v4 1 (nI nn) (nI L) v8 v9 v10 v11)) zLs, [.ref (t 0), .ref (w 1), .ref (q 0), .int e1, .ref (w 3), .ref (w 7), .ref (w 8), .int e2, .int e3, .int e4, .int e5], zMv w v1 (nI n) v3 v4 e1 (nI nn) (nI L) v8 v9 v10 v11, _, _, _, _, _, _, _, _, ⟨by omega, by omega, by omega, by omega, by omega, by omega⟩, ?_, ?_, L_i (ins := [0, 1, 3]) hE hcl zLs_nd (by decide) (by decide) ?_ ?_ ?_, L_i (ins := [20, 21, 24]) hE hm zLs_nd (by decide) (by decide) ?_ ?_ ?_, ⟨_, rfl, a, n, nn, L, 1, 0, ⟨e2, e3, e4, e5, v3, v4, v8, v9, v10, v11, rfl, cu_s, hx1, hx2⟩, h1.go (by omega) hb ⟨rfl, rfl⟩, h2.go (by omega) hb ⟨rfl, rfl, fun j hj => ?_⟩, ⟨Or.inr rfl, a, _, rfl, rfl, fun _ => ⟨in_up hI (by omega) hb, fun j hj => cp_at hj⟩⟩, h4.go rfl, h5.go ⟨rfl, rfl⟩, h6.go ⟨rfl, rfl, rfl, rfl⟩, h7.go ⟨rfl, rfl⟩, ⟨F, hF⟩, ⟨F', hF'⟩⟩⟩
  · show (f 30 ++ (f 31 ++ (f 0 ++ _)))[2]? = _
    rw [hF, hF', h0]
    rfl
  · show (f 30 ++ (f 31 ++ (_ ++ (f 20 ++ _))))[3]? = _
    rw [hF, hF', h20]
    rfl
  · rw [zWl3, h0, h1.1, k3]; rfl
  · rw [zWl3]
    show _ ++ f 1 ++ _ = _
    rw [h1.1]
    rfl
  · intro k _ hk
    simp only [List.mem_cons, List.not_mem_nil, or_false, not_or] at hk
    rw [cu_n hk.1, cu_n hk.2.2]
  · rw [zWl3]
    show f 20 ++ f 21 ++ f 24 = _
    rw [h20, h1.2.1, k24]
    rfl
  · rw [zWl3]
    show _ ++ f 21 ++ _ = _
    rw [h1.2.1]
    rfl
  · intro k _ hk
    simp only [List.mem_cons, List.not_mem_nil, or_false, not_or] at hk
    rw [cu_n hk.1, cu_n hk.2.2]
  · rw [cu_n (by omega), cu_n (by omega), cu_n (by omega), cu_n (by omega)]
end SEM
