/-! the next player, the typed text -/
theorem ch_c (x : Int32) : x < 32 ∨ (¬ x < 32 ∧ ¬ x ≤ 126) ∨ ∃ i, 32 ≤ i ∧ i ≤ 126 ∧ x = nI i := by
  by_cases hx : x < 32
  · exact Or.inl hx
  · refine Or.inr ?_
    have hx0 : ¬ x < 0 := by
      rw [Int32.lt_iff_toInt_lt] at hx ⊢
      have e1 : (32 : Int32).toInt = 32 := by decide
      have e2 : (0 : Int32).toInt = 0 := by decide
      omega
    obtain ⟨k, hk, rfl⟩ := nI_of hx0
    have h1 : 32 ≤ k := Nat.le_of_not_lt (fun h => hx ((nI_ltI (b := 32) hk (by omega)).mpr h))
    by_cases c : k ≤ 126
    · exact Or.inr ⟨k, h1, c, rfl⟩
    · exact Or.inl ⟨hx, fun h => c ((nI_leI (b := 126) hk (by omega)).mp h)⟩
section TY
variable {l : Launch} {E : zEn} {D : zG} {cy : Nat → ClassId}
set_option maxHeartbeats 400000 in
set_option maxRecDepth 100000 in
theorem ty_p {w t q ad : Nat → Nat} {e1 e2 e3 e4 e5 : Int32} {L p k : Nat} {ft : Nat → Int32} {fi : Nat → Option Nat} {fg : Nat → Int32} : (zOb w t q e1 e2 e3 e4 e5 ++ zScw cy ad (w 8) (w 9) (w 10) (w 11) L p k ft fi fg).Perm ([(w 10, (Sum.inl (cy 7, 60, .inr (.inr (.inr (.inr (fun j => (fi j).map ad))))) : va_E)), (w 11, .inl (cy 0, 60, .inl fg))] ++ [(w 0, .inr (10, [.ref (t 0), .ref (w 1), .ref (q 0), .int e1, .ref (w 3), .ref (w 7), .ref (w 8), .int e2, .int e3, .int e4, .int e5])), (w 8, .inr (7, [.ref (w 9), .int (nI L), .int (nI p), .ref (w 10), .ref (w 11), .int (nI k)])), (w 9, .inl (cy 3, 60, .inl ft))]) := by
  show ([(w 0, (Sum.inr (10, [.ref (t 0), .ref (w 1), .ref (q 0), .int e1, .ref (w 3), .ref (w 7), .ref (w 8), .int e2, .int e3, .int e4, .int e5]) : va_E)), (w 8, .inr (7, [.ref (w 9), .int (nI L), .int (nI p), .ref (w 10), .ref (w 11), .int (nI k)])), (w 9, .inl (cy 3, 60, .inl ft))] ++ [(w 10, (Sum.inl (cy 7, 60, .inr (.inr (.inr (.inr (fun j => (fi j).map ad))))) : va_E)), (w 11, .inl (cy 0, 60, .inl fg))]).Perm _
  exact List.perm_append_comm
end TY
section SEM
variable {l : Launch} {E : zEn} {D : zG} {cy : Nat → ClassId} {ad w t q : Nat → Nat} {s : Nat → Nat → Nat} {b : Nat} {f : Nat → va_W}
set_option maxHeartbeats 800000 in
set_option maxRecDepth 100000 in
theorem s_nextPlayer (hE : zEok E) (hL0 : l.stackTraces = false) (hX : zOutX E) (hN : zOutN E) (hO : zOut E) (hb : b + 12 ≤ 20000) (h : zAll cy ad w t q s b f) : zKI l E D cy yL_nextPlayer cL_nextPlayer 3 [(0, 8, 11, 13), (0, 8, 14, 18)] yX9_nextPlayer cX9_nextPlayer 4 (some .int) Int32.toInt64 [] (w 0) (w 20) (w 30) (zWl f zLs) (zPo cy ad w t q s (b + 12)) := by
  obtain ⟨a, n, nn, L, e1, v1, ⟨e2, e3, e4, e5, v3, v4, v8, v9, v10, v11, h0, h20, hx1, hx2⟩, h1, h2, h3, h4, h5, h6, h7, ⟨F, hF⟩, ⟨F', hF'⟩⟩ := h
  have hB := h1.2.2.1
  have hI := h1.2.2
  have hW := hW_of h0 hF'
  obtain ⟨gb, ga, k22, k23⟩ := id h7
  have h00 : ¬ a 0 = 1 → a 0 = 0 := by have := hB; unfold zBd at this; omega
  have hg1 : a 0 = 1 → zF a 0 = 1 := fun hr => by show nI (a 0) = 1; rw [hr]; rfl
  have hg0 : ¬ a 0 = 1 → ¬ zF a 0 = 1 := fun hr => by show ¬ nI (a 0) = 1; rw [h00 hr]; decide
  have ha2 : a 2 ≤ 4 := by have := hB; unfold zBd at this; omega
  have ha3 : a 3 ≤ 3 := by have := hB; unfold zBd at this; omega
  have ha13 : a 13 ≤ 5 := by have := hB; unfold zBd at this; omega
  by_cases hr : a 0 = 1
  · obtain ⟨d1, d2⟩ := in_drain hI (by omega) hr
    have hd01 : (mDrain a).2 0 ≤ 1 := by have := d1.1; unfold zBd at this; omega
    have hd3 : (mDrain a).2 3 ≤ 3 := by have := d1.1; unfold zBd at this; omega
    have hz2 : 1 ≤ zn (zF a 2) := by
      show 1 ≤ zn (nI (a 2))
      rw [zn_I (by omega)]
      have := hB; unfold zBd at this; omega
    have hm := fun sz : Nat => c_X9_nextPlayer_ok l hE D cy (w 20) (w 21) (w 22) (w 23) (w 24) (w 25) (w 26) (w 27) (w 28) (w 29) v1 (nI n) v3 v4 e1 (nI nn) (nI L) v8 v9 v10 v11 (zF a) ga (hg1 hr) (zle_I ha3 (by omega)) (zle_I ha2 (by omega)) hz2 (zle_I ha13 (by omega)) sz
    have hcp9 : ∀ j, j < 64 → n_X9_copy (n_X9_copy (zF a) ga 0 0) (zF (mDrain a).2) 0 0 j = zF a j := fun j hj => by rw [cp_at hj, cp_at hj]
    by_cases hd : (mDrain a).2 0 = 1
    · have e9 : n_X9_nextPlayer_ok (zF a) ga = (nI ((mDrain a).2 3), 0, n_X9_copy (n_X9_copy (zF a) ga 0 0) (zF (mDrain a).2) 0 0, n_X9_copy (zF a) ga 0 0) := by
        have er : n_X9_runs (zF (mDrain a).2) = 1 := by
          show (if zF (mDrain a).2 0 = 1 then (1 : Int32) else 0) = 1
          rw [if_pos (show zF (mDrain a).2 0 = 1 by show nI ((mDrain a).2 0) = 1; rw [hd]; rfl)]
        unfold n_X9_nextPlayer_ok
        dsimp only
        rw [d2]
        dsimp only
        rw [er, if_neg (by decide)]
        rfl
      rw [e9] at hm
      have hm2 : ∀ sz, Met l yX9_nextPlayer _ _ _ (zQi D (zMo w 0 (nI n) v3 v4 e1 (nI nn) (nI L) v8 v9 v10 v11 ++ zAr cy (w 21) 64 (zF a) ++ zAr cy (w 23) 64 (n_X9_copy (zF a) ga 0 0)) _ (nI ((mDrain a).2 3))) _ _ _ := fun sz => z_wkI (hm sz) (zSm_app (zSm_app (zSm_rf (zMo w 0 (nI n) v3 v4 e1 (nI nn) (nI L) v8 v9 v10 v11)) (zAr_sm hcp9)) (zSm_rf (zAr cy (w 23) 64 (n_X9_copy (zF a) ga 0 0)))) rfl
      refine zKI_of (F1 := vp_updL F 0 (nI ((mDrain a).2 3)).toInt64) (f1 := f) (f3 := cu (cu (cu f 30 (zOl cy (w 30) (vp_updL F 0 (nI ((mDrain a).2 3)).toInt64))) 23 (zAr cy (w 23) 64 (n_X9_copy (zF a) ga 0 0))) 20 (zMo w 0 (nI n) v3 v4 e1 (nI nn) (nI L) v8 v9 v10 v11)) hE hF ⟨by omega, by omega, by omega, by omega, by omega, by omega⟩ (k_nextPlayer l hE D cy (w 0) (w 30) F hW (rc_i hE h0 h1.1 (fun sz => t_X8_nextPlayer l hE D cy (w 0) (w 1) (q 0) (w 3) (w 7) (w 8) t e1 e2 e3 e4 e5 a hI hr hd hd3 sz))) rfl h20 (L_i (ins := [20, 21, 23]) hE hm2 zLs_nd (by decide) (by decide) ?_ ?_ ?_) cu_s rfl ⟨F', hF'⟩ ⟨_, _, _, _, _, _, _, h0⟩ ⟨F', hF'⟩ ⟨_, _, _, _, _, _, _, h0⟩ (fun _ => rfl) ⟨_, rfl, a, n, nn, L, e1, 0, ⟨e2, e3, e4, e5, v3, v4, v8, v9, v10, v11, h0, cu_s, hx1, hx2⟩, h1.go (by omega) hb ⟨rfl, rfl⟩, h2.go (by omega) hb ⟨rfl, rfl, fun j hj => ?_⟩, h3.go (by omega) hb ⟨rfl, rfl⟩, h4.go rfl, h5.go ⟨rfl, rfl⟩, h6.go ⟨rfl, rfl, rfl, rfl⟩, ⟨gb, _, k22, rfl⟩, ⟨_, rfl⟩, ⟨F', hF'⟩⟩
      · rw [zWl3]; show f 20 ++ f 21 ++ f 23 = _; rw [h20, h1.2.1, k23]; rfl
      · rw [zWl3]; show _ ++ f 21 ++ _ = _; rw [h1.2.1]; rfl
      · intro k _ hk
        simp only [List.mem_cons, List.not_mem_nil, or_false, not_or] at hk
        rw [cu_n hk.1, cu_n hk.2.2]
      · rw [cu_n (by omega), cu_n (by omega), cu_n (by omega)]
    · have e9 : n_X9_nextPlayer_ok (zF a) ga = (0, 2, n_X9_copy (n_X9_copy (zF a) ga 0 0) (zF (mDrain a).2) 0 0, n_X9_copy (zF a) ga 0 0) := by
        have er : n_X9_runs (zF (mDrain a).2) = 0 := by
          show (if zF (mDrain a).2 0 = 1 then (1 : Int32) else 0) = 0
          rw [if_neg (show ¬ zF (mDrain a).2 0 = 1 by show ¬ nI ((mDrain a).2 0) = 1; rw [show (mDrain a).2 0 = 0 by omega]; decide)]
        unfold n_X9_nextPlayer_ok
        dsimp only
        rw [d2]
        dsimp only
        rw [er, if_pos rfl]
        rfl
      rw [e9] at hm
      have hk0 := c_after (zAg_self a) hI hr
      rw [if_neg hd] at hk0
      have hm2 : ∀ sz, Met l yX9_nextPlayer _ _ _ (zQi D (zMo w 2 (nI n) v3 v4 e1 (nI nn) (nI L) v8 v9 v10 v11 ++ zAr cy (w 21) 64 (zF a) ++ zAr cy (w 23) 64 (n_X9_copy (zF a) ga 0 0)) _ 0) _ _ _ := fun sz => z_wkI (hm sz) (zSm_app (zSm_app (zSm_rf (zMo w 2 (nI n) v3 v4 e1 (nI nn) (nI L) v8 v9 v10 v11)) (zAr_sm hcp9)) (zSm_rf (zAr cy (w 23) 64 (n_X9_copy (zF a) ga 0 0)))) rfl
      refine zKI_of (F1 := F) (f1 := f) (f3 := cu (cu (cu f 30 (zOl cy (w 30) F)) 23 (zAr cy (w 23) 64 (n_X9_copy (zF a) ga 0 0))) 20 (zMo w 2 (nI n) v3 v4 e1 (nI nn) (nI L) v8 v9 v10 v11)) hE hF ⟨by omega, by omega, by omega, by omega, by omega, by omega⟩ (k_nextPlayer_e2 l hE D cy (w 0) (w 30) F hW hN hX (rc_x hE h0 h1.1 (fun sz => t_X8_nextPlayer_e2 l hE D cy (w 0) (w 1) (q 0) (w 3) (w 7) (w 8) t e1 e2 e3 e4 e5 a hL0 hX (zle_I ha3 (by omega)) (by rw [hr]; decide) hk0 sz))) rfl h20 (L_i (ins := [20, 21, 23]) hE hm2 zLs_nd (by decide) (by decide) ?_ ?_ ?_) cu_s rfl ⟨F', hF'⟩ ⟨_, _, _, _, _, _, _, h0⟩ ⟨F', hF'⟩ ⟨_, _, _, _, _, _, _, h0⟩ (fun hk => absurd hk (by decide)) ⟨_, rfl, a, n, nn, L, e1, 2, ⟨e2, e3, e4, e5, v3, v4, v8, v9, v10, v11, h0, cu_s, hx1, hx2⟩, h1.go (by omega) hb ⟨rfl, rfl⟩, h2.go (by omega) hb ⟨rfl, rfl, fun j hj => ?_⟩, h3.go (by omega) hb ⟨rfl, rfl⟩, h4.go rfl, h5.go ⟨rfl, rfl⟩, h6.go ⟨rfl, rfl, rfl, rfl⟩, ⟨gb, _, k22, rfl⟩, ⟨_, rfl⟩, ⟨F', hF'⟩⟩
      · rw [zWl3]; show f 20 ++ f 21 ++ f 23 = _; rw [h20, h1.2.1, k23]; rfl
      · rw [zWl3]; show _ ++ f 21 ++ _ = _; rw [h1.2.1]; rfl
      · intro k _ hk
        simp only [List.mem_cons, List.not_mem_nil, or_false, not_or] at hk
        rw [cu_n hk.1, cu_n hk.2.2]
      · rw [cu_n (by omega), cu_n (by omega), cu_n (by omega)]
  · have h9 := fun sz : Nat => c_X9_nextPlayer_1 l hE D cy (w 20) (w 21) (w 22) (w 23) (w 24) (w 25) (w 26) (w 27) (w 28) (w 29) v1 (nI n) v3 v4 e1 (nI nn) (nI L) v8 v9 v10 v11 (zF a) ga (hg0 hr) sz
    exact rd_of hE hb h0 h20 hx1 hx2 h1 h2 h3 h4 h5 h6 h7 hF hF' ⟨by omega, by omega, by omega, by omega, by omega, by omega⟩ (k_nextPlayer_e1 l hE D cy (w 0) (w 30) F hW hN hX (rc_x hE h0 h1.1 (fun sz => t_X8_nextPlayer_e1 l hE D cy (w 0) (w 1) (q 0) (w 3) (w 7) (w 8) t e1 e2 e3 e4 e5 a hL0 hX (by rw [h00 hr]; rfl) sz))) (rm_i (ins := [20, 21, 23]) hE h9 (by decide) (by decide) (by decide) (by rw [zWl3]; show f 20 ++ f 21 ++ f 23 = _; rw [h20, h1.2.1, k23]; rfl) (by rw [zWl3]; show _ ++ f 21 ++ f 23 = _; rw [h1.2.1, k23]; rfl)) (fun hk => absurd hk (by decide))
set_option maxHeartbeats 800000 in
set_option maxRecDepth 100000 in
theorem s_type (x : Int32) (hE : zEok E) (hL0 : l.stackTraces = false) (hX : zOutX E) (hN : zOutN E) (hO : zOut E) (hb : b + 12 ≤ 20000) (h : zAll cy ad w t q s b f) : zKI l E D cy yL_type cL_type 4 [(0, 9, 12, 35), (0, 9, 15, 13)] yX9_type cX9_type 2 (some .int) Int32.toInt64 [.int x] (w 0) (w 20) (w 30) (zWl f zLs) (zPo cy ad w t q s (b + 12)) := by
  obtain ⟨a, n, nn, L, e1, v1, ⟨e2, e3, e4, e5, v3, v4, v8, v9, v10, v11, h0, h20, hx1, hx2⟩, h1, h2, h3, h4, h5, h6, h7, ⟨F, hF⟩, ⟨F', hF'⟩⟩ := h
  have hB := h1.2.2.1
  have hI := h1.2.2
  have hW := hW_of h0 hF'
  obtain ⟨p, k, ft, fi, fg, gi, gk, gn, i1, i2, i3, i4, i5, i6⟩ := id h6
  rcases ch_c x with hx | ⟨hx, hxx⟩ | ⟨i, hi1, hi2, rfl⟩
  · have h9 := fun sz : Nat => c_X9_type_1 l hE D cy (w 20) (w 21) (w 22) (w 23) (w 24) (w 25) (w 26) (w 27) (w 28) (w 29) v1 (nI n) v3 v4 e1 (nI nn) (nI L) v8 v9 v10 v11 gi x (by unfold n_X9_in; rw [if_pos hx]) sz
    exact rd_of hE hb h0 h20 hx1 hx2 h1 h2 h3 h4 h5 h6 h7 hF hF' ⟨by omega, by omega, by omega, by omega, by omega, by omega⟩ (k_type_e1 l hE D cy (w 0) (w 30) F x hW hN hX (rc_x0 hE h0 (fun sz => t_X8_type_e1 l hE D cy (w 0) (w 1) (q 0) (w 3) (w 7) (w 8) t e1 e2 e3 e4 e5 hL0 hX x hx sz))) (rm_i (ins := [20, 27]) hE h9 (by decide) (by decide) (by decide) (by rw [zWl2]; show f 20 ++ f 27 = _; rw [h20, i3]; rfl) (by rw [zWl2]; show _ ++ f 27 = _; rw [i3]; rfl)) (fun hk => absurd hk (by decide))
  · have hlt : (126 : Int32) < x := by
      rw [Int32.lt_iff_toInt_lt]
      rw [Int32.le_iff_toInt_le] at hxx
      omega
    have h9 := fun sz : Nat => c_X9_type_1 l hE D cy (w 20) (w 21) (w 22) (w 23) (w 24) (w 25) (w 26) (w 27) (w 28) (w 29) v1 (nI n) v3 v4 e1 (nI nn) (nI L) v8 v9 v10 v11 gi x (by unfold n_X9_in; rw [if_neg hx, if_pos hlt]) sz
    exact rd_of hE hb h0 h20 hx1 hx2 h1 h2 h3 h4 h5 h6 h7 hF hF' ⟨by omega, by omega, by omega, by omega, by omega, by omega⟩ (k_type_e1 l hE D cy (w 0) (w 30) F x hW hN hX (rc_x0 hE h0 (fun sz => t_X8_type_e2 l hE D cy (w 0) (w 1) (q 0) (w 3) (w 7) (w 8) t e1 e2 e3 e4 e5 hL0 hX x hx hxx sz))) (rm_i (ins := [20, 27]) hE h9 (by decide) (by decide) (by decide) (by rw [zWl2]; show f 20 ++ f 27 = _; rw [h20, i3]; rfl) (by rw [zWl2]; show _ ++ f 27 = _; rw [i3]; rfl)) (fun hk => absurd hk (by decide))
  · have hge : ¬ nI i < 32 := fun h => absurd ((nI_ltI (b := 32) (by omega) (by omega)).mp h) (by omega)
    have hle : nI i ≤ 126 := (nI_leI (b := 126) (by omega) (by omega)).mpr hi2
    by_cases hz : L = 60
    · have hnl : ¬ nI L < 60 := fun h => absurd ((nI_ltI (b := 60) (by omega) (by omega)).mp h) (by omega)
      have h9 := fun sz : Nat => c_X9_type_2 l hE D cy (w 20) (w 21) (w 22) (w 23) (w 24) (w 25) (w 26) (w 27) (w 28) (w 29) v1 (nI n) v3 v4 e1 (nI nn) (nI L) v8 v9 v10 v11 gi (nI i) i (zi_i i) hi2 hi1 (by rw [hz]; rfl) sz
      have hc := fun sz : Nat => l_x hE (c_X8_type_e3 l hE D cy hL0 hX (w 0) (w 1) (q 0) (w 3) (w 7) (w 8) (t 0) (w 9) (w 10) (w 11) e1 e2 e3 e4 e5 (nI L) (nI p) (nI k) ft (nI i) hge hle hnl sz) (ty_p (cy := cy) (ad := ad) (fi := fi) (fg := fg)) (ty_p (cy := cy) (ad := ad) (fi := fi) (fg := fg))
      exact rd_of hE hb h0 h20 hx1 hx2 h1 h2 h3 h4 h5 h6 h7 hF hF' ⟨by omega, by omega, by omega, by omega, by omega, by omega⟩ (k_type_e2 l hE D cy (w 0) (w 30) F (nI i) hW hN hX (L_x (ins := [0, 6]) (f' := f) hE hc zTl_nd (by decide) (by decide) (by rw [zWl2, h0, i2]) (by rw [zWl2, h0, i2]) (fun _ _ _ => rfl))) (rm_i (ins := [20, 27]) hE h9 (by decide) (by decide) (by decide) (by rw [zWl2]; show f 20 ++ f 27 = _; rw [h20, i3]; rfl) (by rw [zWl2]; show _ ++ f 27 = _; rw [i3]; rfl)) (fun hk => absurd hk (by decide))
    · have hzn : zn (nI L) = L := zn_I (by omega)
      have hm := fun sz : Nat => c_X9_type_ok l hE D cy (w 20) (w 21) (w 22) (w 23) (w 24) (w 25) (w 26) (w 27) (w 28) (w 29) v1 (nI n) v3 v4 e1 (nI nn) (nI L) v8 v9 v10 v11 gi (nI i) i (zi_i i) hi2 hi1 (zle_I i1 (by omega)) (fun h => hz ((nI_eq (b := 60) (by omega) (by omega)).mp h)) (by rw [hzn]; omega) sz
      have hq := fun sz : Nat => c_X8_type l hE D cy (w 0) (w 1) (q 0) (w 3) (w 7) (w 8) (t 0) (w 9) (w 10) (w 11) e1 e2 e3 e4 e5 (nI L) (nI p) (nI k) ft (nI i) hge (zle_I hi2 (by omega)) (zle_I (by omega) (by omega)) sz
      rw [show n_X9_type_ok (nI L) gi (nI i) = (nI (L + 1), 0, nI (L + 1), upd gi L (nI i)) by unfold n_X9_type_ok; rw [hzn]] at hm
      rw [show n_X8_type (nI L) ft (nI i) = (nI (L + 1), nI (L + 1), upd ft L (nI i)) by show (nI (zn (nI L) + 1), nI (zn (nI L) + 1), upd ft (zn (nI L)) (nI i)) = _; rw [hzn]] at hq
      have hc := fun sz : Nat => l_i hE (hq sz) (ty_p (cy := cy) (ad := ad) (fi := fi) (fg := fg)) (ty_p (cy := cy) (ad := ad) (L := L + 1) (p := p) (k := k) (ft := upd ft L (nI i)) (fi := fi) (fg := fg))
      have hc1 := fun sz : Nat => L_i (ins := [0, 6]) (f := f) (f' := cu f 6 (zScw cy ad (w 8) (w 9) (w 10) (w 11) (L + 1) p k (upd ft L (nI i)) fi fg)) hE hc zTl_nd (by decide) (by decide) (by rw [zWl2, h0, i2]) (by rw [zWl2]; show f 0 ++ _ = _; rw [h0]; rfl) (fun k _ hk => by
        simp only [List.mem_cons, List.not_mem_nil, or_false, not_or] at hk
        rw [cu_n hk.2]) sz
      refine zKI_of (F1 := vp_updL F 0 (nI (L + 1)).toInt64) (f1 := cu f 6 (zScw cy ad (w 8) (w 9) (w 10) (w 11) (L + 1) p k (upd ft L (nI i)) fi fg)) (f3 := cu (cu (cu (cu f 6 (zScw cy ad (w 8) (w 9) (w 10) (w 11) (L + 1) p k (upd ft L (nI i)) fi fg)) 30 (zOl cy (w 30) (vp_updL F 0 (nI (L + 1)).toInt64))) 27 (zAr cy (w 27) 60 (upd gi L (nI i)))) 20 (zMo w 0 (nI n) v3 v4 e1 (nI nn) (nI (L + 1)) v8 v9 v10 v11)) hE hF ⟨by omega, by omega, by omega, by omega, by omega, by omega⟩ (k_type l hE D cy (w 0) (w 30) F (nI i) hW hc1) rfl h20 (L_i (ins := [20, 27]) hE hm zLs_nd (by decide) (by decide) ?_ ?_ ?_) cu_s rfl ⟨F', hF'⟩ ⟨_, _, _, _, _, _, _, h0⟩ ⟨F', hF'⟩ ⟨_, _, _, _, _, _, _, h0⟩ (fun _ => rfl) ⟨_, rfl, a, n, nn, L + 1, e1, 0, ⟨e2, e3, e4, e5, v3, v4, v8, v9, v10, v11, h0, cu_s, hx1, hx2⟩, h1.go (by omega) hb ⟨rfl, rfl⟩, h2.go (by omega) hb ⟨rfl, rfl, fun j hj => ?_⟩, h3.go (by omega) hb ⟨rfl, rfl⟩, h4.go rfl, h5.go ⟨rfl, rfl⟩, ⟨p, k, upd ft L (nI i), fi, fg, upd gi L (nI i), gk, gn, by omega, rfl, rfl, i4, i5, fun j hj => ?_⟩, h7.go ⟨rfl, rfl⟩, ⟨_, rfl⟩, ⟨F', hF'⟩⟩
      · rw [zWl2]; show f 20 ++ f 27 = _; rw [h20, i3]; rfl
      · rw [zWl2]; rfl
      · intro k _ hk
        simp only [List.mem_cons, List.not_mem_nil, or_false, not_or] at hk
        rw [cu_n hk.1, cu_n hk.2]
      · rw [cu_n (by omega), cu_n (by omega), cu_n (by omega), cu_n (by omega)]
      · unfold upd
        by_cases c : j = L
        · rw [if_pos c, if_pos c]; exact ⟨rfl, zle_I (by omega) (by omega)⟩
        · rw [if_neg c, if_neg c]; exact i6 j (by omega)
end SEM
