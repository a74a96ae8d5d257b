/-! predictions on the trial ball -/
section RB
variable {l : Launch} {E : zEn} {D : zG} {cy : Nat → ClassId} {ad w t q : Nat → Nat} {s : Nat → Nat → Nat} {b : Nat} {f : Nat → va_W} {a : Nat → Nat} {n nn L : Nat} {e1 e2 e3 e4 e5 v1 v3 v4 v8 v9 v10 v11 : Int32} {F : Nat → Int64} {F' : Nat → UInt64}
variable {y : MethodName} {ws : List Cond} {rm : Room} {av : List Value} {mc ms : Nat} {X4 S4 : va_W}
theorem rb_i {r : Int32} {R : List Nat} {S1 : va_W} (hE : zEok E) (hR : R.Nodup) (hs : ∀ k ∈ [0, 1, 4], k ∈ R) (h0 : f 0 = zOb w t q e1 e2 e3 e4 e5) (h1 : f 1 = S1) (h4 : f 4 = S4) (hM : ∀ sz, Met l y ws rm (zPre E D cy av (zOb w t q e1 e2 e3 e4 e5 ++ S1 ++ S4) sz) (zQi D (zOb w t q e1 e2 e3 e4 e5 ++ S1 ++ X4) (va_A (zOb w t q e1 e2 e3 e4 e5 ++ S1 ++ S4) sz) r) mc ms (va_A (zOb w t q e1 e2 e3 e4 e5 ++ S1 ++ S4) sz)) (sz : Nat) : Met l y ws rm (zPre E D cy av (zWl f R) sz) (zQi D (zWl (cu f 4 X4) R) (va_A (zWl f R) sz) r) mc ms (va_A (zWl f R) sz) :=
  L_i (ins := [0, 1, 4]) hE hM hR (by decide) hs (by rw [zWl3, h0, h1, h4]) (by rw [zWl3]; show f 0 ++ f 1 ++ _ = _; rw [h0, h1]; rfl) (fun k _ hk => by
    simp only [List.mem_cons, List.not_mem_nil, or_false, not_or] at hk
    rw [cu_n hk.2.2]) sz
theorem rb_of {yw ym : MethodName} {cw cm : ByteArray} {nw nm : Nat} {hw : List (Nat × Nat × Nat × Nat)} {rt : Option FieldType} {val : Int32 → Int64} {ax : List Value} {F1 : Nat → Int64} {k r : Int32} {rf1 rl1 mc1 ms1 rf2 rl2 mc2 ms2 : Nat} (hE : zEok E) (hb : b + 12 ≤ 20000) (h0 : f 0 = zOb w t q e1 e2 e3 e4 e5) (h20 : f 20 = zMo w v1 (nI n) v3 v4 e1 (nI nn) (nI L) v8 v9 v10 v11) (hx1 : zRx e2 e3 v3) (hx2 : zRx e4 e5 v4) (h1 : zR1 cy w t b f a) (h2 : zR2 cy w s b f n) (h3 : zR3 cy w q b f e1) (h4 : ∃ (u1 u2 u3 u4 u5 u6 u7 u8 : Int32) (fl fb fd : Nat → Int32), X4 = zBl cy w u1 u2 u3 u4 u5 u6 u7 u8 fl fb fd) (h5 : zR5 cy w f nn) (h6 : zR6 cy ad w f L) (h7 : zR7 cy w f) (hF : f 30 = zOl cy (w 30) F) (hF' : f 31 = zOd cy (w 31) F') (hbd : rf1 ≤ 100 ∧ rl1 ≤ 8000 ∧ rf2 ≤ 100 ∧ rl2 ≤ 8000 ∧ mc1 + mc2 ≤ 1000 ∧ ms1 + ms2 ≤ 14000)
    (hk : ∀ sz, Met l yw (zwsH yw cw nw hw) { frames := rf1, cells := mc1, slots := ms1, locals := rl1 } (zPre E D cy (.ref (w 0) :: (ax ++ [.ref (w 30)])) (zOl cy (w 30) F ++ zWl f zTl) sz) (zQi D (zOl cy (w 30) F1 ++ zWl (cu f 4 X4) zTl) (va_A (zOl cy (w 30) F ++ zWl f zTl) sz) k) mc1 ms1 (va_A (zOl cy (w 30) F ++ zWl f zTl) sz))
    (hm : ∀ sz, Met l ym (zws ym cm nm rt) { frames := rf2, cells := mc2, slots := ms2, locals := rl2 } (zPre E D cy (.ref (w 20) :: ax) (zMo w v1 (nI n) v3 v4 e1 (nI nn) (nI L) v8 v9 v10 v11 ++ zAr cy (w 21) 64 (zF a)) sz) (zQi D (zMo w k (nI n) v3 v4 e1 (nI nn) (nI L) v8 v9 v10 v11 ++ zAr cy (w 21) 64 (zF a)) (va_A (zMo w v1 (nI n) v3 v4 e1 (nI nn) (nI L) v8 v9 v10 v11 ++ zAr cy (w 21) 64 (zF a)) sz) r) mc2 ms2 (va_A (zMo w v1 (nI n) v3 v4 e1 (nI nn) (nI L) v8 v9 v10 v11 ++ zAr cy (w 21) 64 (zF a)) sz))
    (ho : k = 0 → F1 0 = val r) : zKI l E D cy yw cw nw hw ym cm nm rt val ax (w 0) (w 20) (w 30) (zWl f zLs) (zPo cy ad w t q s (b + 12)) := by
  refine zKI_of (F1 := F1) (f1 := cu f 4 X4) (f3 := cu (cu (cu f 4 X4) 30 (zOl cy (w 30) F1)) 20 (zMo w k (nI n) v3 v4 e1 (nI nn) (nI L) v8 v9 v10 v11)) hE hF hbd hk rfl h20 (L_i (ins := [20, 21]) hE hm zLs_nd (by decide) (by decide) ?_ ?_ ?_) cu_s rfl ⟨F', hF'⟩ ⟨_, _, _, _, _, _, _, h0⟩ ⟨F', hF'⟩ ⟨_, _, _, _, _, _, _, h0⟩ ho ⟨_, rfl, a, n, nn, L, e1, k, ⟨e2, e3, e4, e5, v3, v4, v8, v9, v10, v11, h0, cu_s, hx1, hx2⟩, h1.go (by omega) hb ⟨rfl, rfl⟩, h2.go (by omega) hb ⟨rfl, rfl, fun j hj => ?_⟩, h3.go (by omega) hb ⟨rfl, rfl⟩, h4, h5.go ⟨rfl, rfl⟩, h6.go ⟨rfl, rfl, rfl, rfl⟩, h7.go ⟨rfl, rfl⟩, ⟨_, rfl⟩, ⟨F', hF'⟩⟩
  · rw [zWl2]; show f 20 ++ f 21 = _; rw [h20, h1.2.1]
  · rw [zWl2]; show _ ++ f 21 = _; rw [h1.2.1]; rfl
  · intro k _ hk
    simp only [List.mem_cons, List.not_mem_nil, or_false, not_or] at hk
    rw [cu_n hk.1]
  · rw [cu_n (by omega), cu_n (by omega), cu_n (by omega)]
end RB
section SEM
variable {l : Launch} {E : zEn} {D : zG} {cy : Nat → ClassId} {ad w t q : Nat → Nat} {s : Nat → Nat → Nat} {b : Nat} {f : Nat → va_W}
set_option maxHeartbeats 800000 in
set_option maxRecDepth 100000 in
theorem s_laneRun (hE : zEok E) (hL0 : l.stackTraces = false) (hX : zOutX E) (hN : zOutN E) (hO : zOut E) (hb : b + 12 ≤ 20000) (h : zAll cy ad w t q s b f) : zKI l E D cy yL_laneRun cL_laneRun 3 [(0, 8, 11, 13)] yX9_laneRun cX9_laneRun 1 (some .int) Int32.toInt64 [] (w 0) (w 20) (w 30) (zWl f zLs) (zPo cy ad w t q s (b + 12)) := by
  obtain ⟨a, n, nn, L, e1, v1, ⟨e2, e3, e4, e5, v3, v4, v8, v9, v10, v11, h0, h20, hx1, hx2⟩, h1, h2, h3, h4, h5, h6, h7, ⟨F, hF⟩, ⟨F', hF'⟩⟩ := h
  have hB := h1.2.2.1
  have hI := h1.2.2
  have hW := hW_of h0 hF'
  obtain ⟨u1, u2, u3, u4, u5, u6, u7, u8, fl, fb, fd, k4⟩ := id h4
  have h00 : ¬ a 0 = 1 → a 0 = 0 := by have := hB; unfold zBd at this; omega
  have hg1 : a 0 = 1 → zF a 0 = 1 := fun hr => by show nI (a 0) = 1; rw [hr]; rfl
  have hg0 : ¬ a 0 = 1 → ¬ zF a 0 = 1 := fun hr => by show ¬ nI (a 0) = 1; rw [h00 hr]; decide
  have ha13 : a 13 ≤ 5 := by have := hB; unfold zBd at this; omega
  by_cases hr : a 0 = 1
  · have e9 : n_X9_laneRun_ok (zF a) = (nI (mLanes a), 0) := by
      show (n_X9_lanes (zF a), (0 : Int32)) = _
      rw [e_lanes hB]
    have h9 := fun sz : Nat => c_X9_laneRun_ok l hE D cy (w 20) (w 21) (w 22) (w 23) (w 24) (w 25) (w 26) (w 27) (w 28) (w 29) v1 (nI n) v3 v4 e1 (nI nn) (nI L) v8 v9 v10 v11 (zF a) (hg1 hr) sz
    rw [e9] at h9
    obtain ⟨o, ho⟩ : ∃ o, o = n_X8_laneRun (nI (mU a)) (nI (a 6)) (nI (a 7)) (nI (a 8)) (nI (a 9)) (nI (a 10)) (nI (a 11)) (nI (a 12)) (fun j => nI (a (16 + j))) (fun j => nI (a (20 + j))) (fun j => nI (a (24 + j))) fl fb fd := ⟨_, rfl⟩
    have er : o.1 = nI (mLanes a) := by
      rw [ho]
      unfold n_X8_laneRun
      dsimp only
      exact c_simL (zAg_self a) hB hr fl fb fd
    have hc : ∀ sz, Met l yX8_laneRun _ _ _ (zQi D (zOb w t q e1 e2 e3 e4 e5 ++ zTab cy t a ++ zBl cy w (o.2.1) (o.2.2.1) (o.2.2.2.1) (o.2.2.2.2.1) (o.2.2.2.2.2.1) (o.2.2.2.2.2.2.1) (o.2.2.2.2.2.2.2.1) (o.2.2.2.2.2.2.2.2.1) (o.2.2.2.2.2.2.2.2.2.1) (o.2.2.2.2.2.2.2.2.2.2.1) (o.2.2.2.2.2.2.2.2.2.2.2)) _ (nI (mLanes a))) _ _ _ := fun sz => z_wkI (c_X8_laneRun l hE D cy hO (w 0) (w 1) (q 0) (w 3) (w 7) (w 8) (t 0) (t 1) (t 2) (t 3) (t 4) (t 5) (t 6) (t 7) (t 8) (t 9) (t 10) (t 11) (t 12) (w 4) (w 5) (w 6) e1 e2 e3 e4 e5 (nI (a 2)) (nI (a 0)) (nI (a 1)) (nI (a 3)) (nI (a 4)) (fun j => nI (a (30 + j))) (fun j => nI (a (34 + j))) (nI (mU a)) (nI (a 6)) (nI (a 7)) (nI (a 8)) (nI (a 9)) (nI (a 10)) (nI (a 11)) (nI (a 12)) (fun j => nI (a (16 + j))) (fun j => nI (a (20 + j))) (fun j => nI (a (24 + j))) (nI (a 13)) (fun j => nI (a (46 + 3 * j))) (fun j => nI (a (46 + 3 * j + 1))) (fun j => nI (a (46 + 3 * j + 2))) (nI (a 42 + a 43 + a 44 + a 45)) (nI (a 14)) (nI (a 15)) (fun j => nI (a (42 + j))) u1 u2 u3 u4 u5 u6 u7 u8 fl fb fd (by rw [hr]; decide) (zb_11 hB) (zb_12 hB) (zb_l hB) (zb_d hB) sz) (by rw [← ho]; exact zSm_rf _) (by rw [← ho]; exact er)
    exact rb_of hE hb h0 h20 hx1 hx2 h1 h2 h3 ⟨_, _, _, _, _, _, _, _, _, _, _, rfl⟩ h5 h6 h7 hF hF' ⟨by omega, by omega, by omega, by omega, by omega, by omega⟩ (k_laneRun l hE D cy (w 0) (w 30) F hW (rb_i hE zTl_nd (by decide) h0 h1.1 k4 hc)) h9 (fun _ => rfl)
  · have h9 := fun sz : Nat => c_X9_laneRun_1 l hE D cy (w 20) (w 21) (w 22) (w 23) (w 24) (w 25) (w 26) (w 27) (w 28) (w 29) v1 (nI n) v3 v4 e1 (nI nn) (nI L) v8 v9 v10 v11 (zF a) (hg0 hr) sz
    exact rd_of hE hb h0 h20 hx1 hx2 h1 h2 h3 h4 h5 h6 h7 hF hF' ⟨by omega, by omega, by omega, by omega, by omega, by omega⟩ (k_laneRun_e1 l hE D cy (w 0) (w 30) F hW hN hX (rc_x hE h0 h1.1 (fun sz => t_X8_laneRun_e l hE D cy (w 0) (w 1) (q 0) (w 3) (w 7) (w 8) t e1 e2 e3 e4 e5 a hL0 hX (by rw [h00 hr]; rfl) sz))) (rm_21 hE h20 h1.2.1 h9) (fun hk => absurd hk (by decide))
set_option maxHeartbeats 800000 in
set_option maxRecDepth 100000 in
theorem s_bumperRun (x y : Int32) (hE : zEok E) (hL0 : l.stackTraces = false) (hX : zOutX E) (hN : zOutN E) (hO : zOut E) (hb : b + 12 ≤ 20000) (h : zAll cy ad w t q s b f) : zKI l E D cy yL_bumperRun cL_bumperRun 5 [(0, 10, 13, 24), (0, 10, 17, 35), (0, 10, 21, 13)] yX9_bumperRun cX9_bumperRun 3 (some .int) Int32.toInt64 [.int x, .int y] (w 0) (w 20) (w 30) (zWl f zLs) (zPo cy ad w t q s (b + 12)) := by
  obtain ⟨a, n, nn, L, e1, v1, ⟨e2, e3, e4, e5, v3, v4, v8, v9, v10, v11, h0, h20, hx1, hx2⟩, h1, h2, h3, h4, h5, h6, h7, ⟨F, hF⟩, ⟨F', hF'⟩⟩ := h
  have hB := h1.2.2.1
  have hI := h1.2.2
  have hW := hW_of h0 hF'
  obtain ⟨u1, u2, u3, u4, u5, u6, u7, u8, fl, fb, fd, k4⟩ := id h4
  have h00 : ¬ a 0 = 1 → a 0 = 0 := by have := hB; unfold zBd at this; omega
  have hg1 : a 0 = 1 → zF a 0 = 1 := fun hr => by show nI (a 0) = 1; rw [hr]; rfl
  have hg0 : ¬ a 0 = 1 → ¬ zF a 0 = 1 := fun hr => by show ¬ nI (a 0) = 1; rw [h00 hr]; decide
  have ha13 : a 13 ≤ 5 := by have := hB; unfold zBd at this; omega
  rcases ix_c x (N := 3) (by omega) with ⟨i, hi, rfl⟩ | ⟨hx, hm⟩
  · have hj : ¬ n_X8_isIndex (nI i) 3 = 0 := z_ix 3 (by decide) i hi
    rcases iy_c y with ⟨j, hj5, rfl⟩ | ⟨hm, hy | ⟨hy, hyy⟩⟩
    · by_cases hr : a 0 = 1
      · have e9 : n_X9_bumperRun_ok (zF a) i (nI j) = (nI (mBumps a i j), 0) := by
          show ((n_X9_bumpers_ok (zF a) i (nI j)).1, (n_X9_bumpers_ok (zF a) i (nI j)).2) = _
          rw [e_bumps hB hi hj5]
        have h9 := fun sz : Nat => c_X9_bumperRun_ok l hE D cy (w 20) (w 21) (w 22) (w 23) (w 24) (w 25) (w 26) (w 27) (w 28) (w 29) v1 (nI n) v3 v4 e1 (nI nn) (nI L) v8 v9 v10 v11 (zF a) (nI i) i (nI j) j (zi_i i) (by omega) (zi_i j) hj5 (hg1 hr) sz
        rw [e9] at h9
        have hzi : zn (nI i) = i := zn_I (by omega)
        obtain ⟨o, ho⟩ : ∃ o, o = n_X8_bumperRun (nI (mU a)) (nI (a 6)) (nI (a 7)) (nI (a 8)) (nI (a 9)) (nI (a 10)) (nI (a 11)) (nI (a 12)) (fun j => nI (a (16 + j))) (fun j => nI (a (20 + j))) (fun j => nI (a (24 + j))) fl fb fd (nI i) (nI j) := ⟨_, rfl⟩
        have er : o.1 = nI (mBumps a i j) := by
          rw [ho]
          unfold n_X8_bumperRun
          dsimp only
          rw [hzi]
          exact c_simB (zAg_self a) hB hr hi hj5 fl fb fd
        have hc : ∀ sz, Met l yX8_bumperRun _ _ _ (zQi D (zOb w t q e1 e2 e3 e4 e5 ++ zTab cy t a ++ zBl cy w (o.2.1) (o.2.2.1) (o.2.2.2.1) (o.2.2.2.2.1) (o.2.2.2.2.2.1) (o.2.2.2.2.2.2.1) (o.2.2.2.2.2.2.2.1) (o.2.2.2.2.2.2.2.2.1) (o.2.2.2.2.2.2.2.2.2.1) (o.2.2.2.2.2.2.2.2.2.2.1) (o.2.2.2.2.2.2.2.2.2.2.2)) _ (nI (mBumps a i j))) _ _ _ := fun sz => z_wkI (c_X8_bumperRun l hE D cy hO (w 0) (w 1) (q 0) (w 3) (w 7) (w 8) (t 0) (t 1) (t 2) (t 3) (t 4) (t 5) (t 6) (t 7) (t 8) (t 9) (t 10) (t 11) (t 12) (w 4) (w 5) (w 6) e1 e2 e3 e4 e5 (nI (a 2)) (nI (a 0)) (nI (a 1)) (nI (a 3)) (nI (a 4)) (fun j => nI (a (30 + j))) (fun j => nI (a (34 + j))) (nI (mU a)) (nI (a 6)) (nI (a 7)) (nI (a 8)) (nI (a 9)) (nI (a 10)) (nI (a 11)) (nI (a 12)) (fun j => nI (a (16 + j))) (fun j => nI (a (20 + j))) (fun j => nI (a (24 + j))) (nI (a 13)) (fun j => nI (a (46 + 3 * j))) (fun j => nI (a (46 + 3 * j + 1))) (fun j => nI (a (46 + 3 * j + 2))) (nI (a 42 + a 43 + a 44 + a 45)) (nI (a 14)) (nI (a 15)) (fun j => nI (a (42 + j))) u1 u2 u3 u4 u5 u6 u7 u8 fl fb fd (nI i) (nI j) hj (zle_I (by omega) (by omega)) (zle_I hj5 (by omega)) (by rw [hr]; decide) (zb_11 hB) (zb_12 hB) (zb_l hB) (zb_d hB) sz) (by rw [← ho]; exact zSm_rf _) (by rw [← ho]; exact er)
        exact rb_of hE hb h0 h20 hx1 hx2 h1 h2 h3 ⟨_, _, _, _, _, _, _, _, _, _, _, rfl⟩ h5 h6 h7 hF hF' ⟨by omega, by omega, by omega, by omega, by omega, by omega⟩ (k_bumperRun l hE D cy (w 0) (w 30) F (nI i) (nI j) hW (rb_i hE zTl_nd (by decide) h0 h1.1 k4 hc)) h9 (fun _ => rfl)
      · have h9 := fun sz : Nat => c_X9_bumperRun_3 l hE D cy (w 20) (w 21) (w 22) (w 23) (w 24) (w 25) (w 26) (w 27) (w 28) (w 29) v1 (nI n) v3 v4 e1 (nI nn) (nI L) v8 v9 v10 v11 (zF a) (nI i) i (nI j) j (zi_i i) (by omega) (zi_i j) hj5 (hg0 hr) sz
        exact rd_of hE hb h0 h20 hx1 hx2 h1 h2 h3 h4 h5 h6 h7 hF hF' ⟨by omega, by omega, by omega, by omega, by omega, by omega⟩ (k_bumperRun_e3 l hE D cy (w 0) (w 30) F (nI i) (nI j) hW hN hX (rc_x hE h0 h1.1 (fun sz => t_X8_bumperRun_e4 l hE D cy (w 0) (w 1) (q 0) (w 3) (w 7) (w 8) t e1 e2 e3 e4 e5 a hL0 hX (nI i) (nI j) hj (zle_I hj5 (by omega)) (by rw [h00 hr]; rfl) sz))) (rm_21 hE h20 h1.2.1 h9) (fun hk => absurd hk (by decide))
    · have h9 := fun sz : Nat => c_X9_bumperRun_2 l hE D cy (w 20) (w 21) (w 22) (w 23) (w 24) (w 25) (w 26) (w 27) (w 28) (w 29) v1 (nI n) v3 v4 e1 (nI nn) (nI L) v8 v9 v10 v11 (zF a) (nI i) i y (zi_i i) (by omega) hm sz
      exact rd_of hE hb h0 h20 hx1 hx2 h1 h2 h3 h4 h5 h6 h7 hF hF' ⟨by omega, by omega, by omega, by omega, by omega, by omega⟩ (k_bumperRun_e2 l hE D cy (w 0) (w 30) F (nI i) y hW hN hX (rc_x hE h0 h1.1 (fun sz => t_X8_bumperRun_e2 l hE D cy (w 0) (w 1) (q 0) (w 3) (w 7) (w 8) t e1 e2 e3 e4 e5 a hL0 hX (nI i) y hj hy sz))) (rm_21 hE h20 h1.2.1 h9) (fun hk => absurd hk (by decide))
    · have h9 := fun sz : Nat => c_X9_bumperRun_2 l hE D cy (w 20) (w 21) (w 22) (w 23) (w 24) (w 25) (w 26) (w 27) (w 28) (w 29) v1 (nI n) v3 v4 e1 (nI nn) (nI L) v8 v9 v10 v11 (zF a) (nI i) i y (zi_i i) (by omega) hm sz
      exact rd_of hE hb h0 h20 hx1 hx2 h1 h2 h3 h4 h5 h6 h7 hF hF' ⟨by omega, by omega, by omega, by omega, by omega, by omega⟩ (k_bumperRun_e2 l hE D cy (w 0) (w 30) F (nI i) y hW hN hX (rc_x hE h0 h1.1 (fun sz => t_X8_bumperRun_e3 l hE D cy (w 0) (w 1) (q 0) (w 3) (w 7) (w 8) t e1 e2 e3 e4 e5 a hL0 hX (nI i) y hj hy hyy sz))) (rm_21 hE h20 h1.2.1 h9) (fun hk => absurd hk (by decide))
  · have h9 := fun sz : Nat => c_X9_bumperRun_1 l hE D cy (w 20) (w 21) (w 22) (w 23) (w 24) (w 25) (w 26) (w 27) (w 28) (w 29) v1 (nI n) v3 v4 e1 (nI nn) (nI L) v8 v9 v10 v11 (zF a) x y hm sz
    exact rd_of hE hb h0 h20 hx1 hx2 h1 h2 h3 h4 h5 h6 h7 hF hF' ⟨by omega, by omega, by omega, by omega, by omega, by omega⟩ (k_bumperRun_e1 l hE D cy (w 0) (w 30) F x y hW hN hX (rc_x hE h0 h1.1 (fun sz => t_X8_bumperRun_e1 l hE D cy (w 0) (w 1) (q 0) (w 3) (w 7) (w 8) t e1 e2 e3 e4 e5 a hL0 hX x y hx sz))) (rm_21 hE h20 h1.2.1 h9) (fun hk => absurd hk (by decide))
set_option maxHeartbeats 800000 in
set_option maxRecDepth 100000 in
theorem s_bumperRunBySeries (x y : Int32) (hE : zEok E) (hL0 : l.stackTraces = false) (hX : zOutX E) (hN : zOutN E) (hO : zOut E) (hb : b + 12 ≤ 20000) (h : zAll cy ad w t q s b f) : zKI l E D cy yL_bumperRunBySeries cL_bumperRunBySeries 5 [(0, 10, 13, 24), (0, 10, 17, 35), (0, 10, 21, 13)] yX9_bumperRunBySeries cX9_bumperRunBySeries 3 (some .int) Int32.toInt64 [.int x, .int y] (w 0) (w 20) (w 30) (zWl f zLs) (zPo cy ad w t q s (b + 12)) := by
  obtain ⟨a, n, nn, L, e1, v1, ⟨e2, e3, e4, e5, v3, v4, v8, v9, v10, v11, h0, h20, hx1, hx2⟩, h1, h2, h3, h4, h5, h6, h7, ⟨F, hF⟩, ⟨F', hF'⟩⟩ := h
  have hB := h1.2.2.1
  have hI := h1.2.2
  have hW := hW_of h0 hF'
  obtain ⟨u1, u2, u3, u4, u5, u6, u7, u8, fl, fb, fd, k4⟩ := id h4
  have h00 : ¬ a 0 = 1 → a 0 = 0 := by have := hB; unfold zBd at this; omega
  have hg1 : a 0 = 1 → zF a 0 = 1 := fun hr => by show nI (a 0) = 1; rw [hr]; rfl
  have hg0 : ¬ a 0 = 1 → ¬ zF a 0 = 1 := fun hr => by show ¬ nI (a 0) = 1; rw [h00 hr]; decide
  have ha13 : a 13 ≤ 5 := by have := hB; unfold zBd at this; omega
  rcases ix_c x (N := 3) (by omega) with ⟨i, hi, rfl⟩ | ⟨hx, hm⟩
  · have hj : ¬ n_X8_isIndex (nI i) 3 = 0 := z_ix 3 (by decide) i hi
    rcases iy_c y with ⟨j, hj5, rfl⟩ | ⟨hm, hy | ⟨hy, hyy⟩⟩
    · by_cases hr : a 0 = 1
      · have e9 : n_X9_bumperRunBySeries_ok (zF a) i (nI j) = (nI (mBumps a i j), 0) := by
          show ((n_X9_bumpers_ok (zF a) i (nI j)).1, (n_X9_bumpers_ok (zF a) i (nI j)).2) = _
          rw [e_bumps hB hi hj5]
        have h9 := fun sz : Nat => c_X9_bumperRunBySeries_ok l hE D cy (w 20) (w 21) (w 22) (w 23) (w 24) (w 25) (w 26) (w 27) (w 28) (w 29) v1 (nI n) v3 v4 e1 (nI nn) (nI L) v8 v9 v10 v11 (zF a) (nI i) i (nI j) j (zi_i i) (by omega) (zi_i j) hj5 (hg1 hr) sz
        rw [e9] at h9
        have hzi : zn (nI i) = i := zn_I (by omega)
        have er := c_series (zAg_self a) hB hr hi hj5
        have hc := fun sz : Nat => c_X8_bumperRunBySeries l hE D cy (w 0) (w 1) (q 0) (w 3) (w 7) (w 8) (t 0) (t 1) (t 2) (t 3) (t 4) (t 5) (t 6) (t 7) (t 8) (t 9) (t 10) (t 11) (t 12) e1 e2 e3 e4 e5 (nI (a 2)) (nI (a 0)) (nI (a 1)) (nI (a 3)) (nI (a 4)) (fun j => nI (a (30 + j))) (fun j => nI (a (34 + j))) (nI (mU a)) (nI (a 6)) (nI (a 7)) (nI (a 8)) (nI (a 9)) (nI (a 10)) (nI (a 11)) (nI (a 12)) (fun j => nI (a (16 + j))) (fun j => nI (a (20 + j))) (fun j => nI (a (24 + j))) (nI (a 13)) (fun j => nI (a (46 + 3 * j))) (fun j => nI (a (46 + 3 * j + 1))) (fun j => nI (a (46 + 3 * j + 2))) (nI (a 42 + a 43 + a 44 + a 45)) (nI (a 14)) (nI (a 15)) (fun j => nI (a (42 + j))) (nI i) (nI j) hj (zle_I (by omega) (by omega)) (zle_I hj5 (by omega)) (by rw [hr]; decide) sz
        rw [show n_X8_bumperRunBySeries (nI (mU a)) (nI (a 11)) (fun j => nI (a (20 + j))) (nI i) (nI j) = nI (mBumps a i j) by unfold n_X8_bumperRunBySeries; dsimp only; rw [hzi]; exact er] at hc
        exact rd_of hE hb h0 h20 hx1 hx2 h1 h2 h3 h4 h5 h6 h7 hF hF' ⟨by omega, by omega, by omega, by omega, by omega, by omega⟩ (k_bumperRunBySeries l hE D cy (w 0) (w 30) F (nI i) (nI j) hW (rc_i (X := zTab cy t a) hE h0 h1.1 hc)) (rm_21 hE h20 h1.2.1 h9) (fun _ => rfl)
      · have h9 := fun sz : Nat => c_X9_bumperRunBySeries_3 l hE D cy (w 20) (w 21) (w 22) (w 23) (w 24) (w 25) (w 26) (w 27) (w 28) (w 29) v1 (nI n) v3 v4 e1 (nI nn) (nI L) v8 v9 v10 v11 (zF a) (nI i) i (nI j) j (zi_i i) (by omega) (zi_i j) hj5 (hg0 hr) sz
        exact rd_of hE hb h0 h20 hx1 hx2 h1 h2 h3 h4 h5 h6 h7 hF hF' ⟨by omega, by omega, by omega, by omega, by omega, by omega⟩ (k_bumperRunBySeries_e3 l hE D cy (w 0) (w 30) F (nI i) (nI j) hW hN hX (rc_x hE h0 h1.1 (fun sz => t_X8_bumperRunBySeries_e4 l hE D cy (w 0) (w 1) (q 0) (w 3) (w 7) (w 8) t e1 e2 e3 e4 e5 a hL0 hX (nI i) (nI j) hj (zle_I hj5 (by omega)) (by rw [h00 hr]; rfl) sz))) (rm_21 hE h20 h1.2.1 h9) (fun hk => absurd hk (by decide))
    · have h9 := fun sz : Nat => c_X9_bumperRunBySeries_2 l hE D cy (w 20) (w 21) (w 22) (w 23) (w 24) (w 25) (w 26) (w 27) (w 28) (w 29) v1 (nI n) v3 v4 e1 (nI nn) (nI L) v8 v9 v10 v11 (zF a) (nI i) i y (zi_i i) (by omega) hm sz
      exact rd_of hE hb h0 h20 hx1 hx2 h1 h2 h3 h4 h5 h6 h7 hF hF' ⟨by omega, by omega, by omega, by omega, by omega, by omega⟩ (k_bumperRunBySeries_e2 l hE D cy (w 0) (w 30) F (nI i) y hW hN hX (rc_x hE h0 h1.1 (fun sz => t_X8_bumperRunBySeries_e2 l hE D cy (w 0) (w 1) (q 0) (w 3) (w 7) (w 8) t e1 e2 e3 e4 e5 a hL0 hX (nI i) y hj hy sz))) (rm_21 hE h20 h1.2.1 h9) (fun hk => absurd hk (by decide))
    · have h9 := fun sz : Nat => c_X9_bumperRunBySeries_2 l hE D cy (w 20) (w 21) (w 22) (w 23) (w 24) (w 25) (w 26) (w 27) (w 28) (w 29) v1 (nI n) v3 v4 e1 (nI nn) (nI L) v8 v9 v10 v11 (zF a) (nI i) i y (zi_i i) (by omega) hm sz
      exact rd_of hE hb h0 h20 hx1 hx2 h1 h2 h3 h4 h5 h6 h7 hF hF' ⟨by omega, by omega, by omega, by omega, by omega, by omega⟩ (k_bumperRunBySeries_e2 l hE D cy (w 0) (w 30) F (nI i) y hW hN hX (rc_x hE h0 h1.1 (fun sz => t_X8_bumperRunBySeries_e3 l hE D cy (w 0) (w 1) (q 0) (w 3) (w 7) (w 8) t e1 e2 e3 e4 e5 a hL0 hX (nI i) y hj hy hyy sz))) (rm_21 hE h20 h1.2.1 h9) (fun hk => absurd hk (by decide))
  · have h9 := fun sz : Nat => c_X9_bumperRunBySeries_1 l hE D cy (w 20) (w 21) (w 22) (w 23) (w 24) (w 25) (w 26) (w 27) (w 28) (w 29) v1 (nI n) v3 v4 e1 (nI nn) (nI L) v8 v9 v10 v11 (zF a) x y hm sz
    exact rd_of hE hb h0 h20 hx1 hx2 h1 h2 h3 h4 h5 h6 h7 hF hF' ⟨by omega, by omega, by omega, by omega, by omega, by omega⟩ (k_bumperRunBySeries_e1 l hE D cy (w 0) (w 30) F x y hW hN hX (rc_x hE h0 h1.1 (fun sz => t_X8_bumperRunBySeries_e1 l hE D cy (w 0) (w 1) (q 0) (w 3) (w 7) (w 8) t e1 e2 e3 e4 e5 a hL0 hX x y hx sz))) (rm_21 hE h20 h1.2.1 h9) (fun hk => absurd hk (by decide))
set_option maxHeartbeats 800000 in
set_option maxRecDepth 100000 in
theorem s_isConsistent (hE : zEok E) (hL0 : l.stackTraces = false) (hX : zOutX E) (hN : zOutN E) (hO : zOut E) (hb : b + 12 ≤ 20000) (h : zAll cy ad w t q s b f) : zKP l E D cy yX8_isConsistent cX8_isConsistent 1 (some .boolean) yX9_isConsistent cX9_isConsistent 1 (some .boolean) (w 0) (w 20) (zWl f zLs) (zPo cy ad w t q s (b + 12)) := by
  obtain ⟨a, n, nn, L, e1, v1, ⟨e2, e3, e4, e5, v3, v4, v8, v9, v10, v11, h0, h20, hx1, hx2⟩, h1, h2, h3, h4, h5, h6, h7, ⟨F, hF⟩, ⟨F', hF'⟩⟩ := h
  have hB := h1.2.2.1
  have hI := h1.2.2
  have hW := hW_of h0 hF'
  obtain ⟨u1, u2, u3, u4, u5, u6, u7, u8, fl, fb, fd, k4⟩ := id h4
  have h00 : ¬ a 0 = 1 → a 0 = 0 := by have := hB; unfold zBd at this; omega
  have hg1 : a 0 = 1 → zF a 0 = 1 := fun hr => by show nI (a 0) = 1; rw [hr]; rfl
  have hg0 : ¬ a 0 = 1 → ¬ zF a 0 = 1 := fun hr => by show ¬ nI (a 0) = 1; rw [h00 hr]; decide
  have ha13 : a 13 ≤ 5 := by have := hB; unfold zBd at this; omega
  obtain ⟨o, ho⟩ : ∃ o, o = n_X8_isConsistent (nI (a 0)) (nI (mU a)) (nI (a 6)) (nI (a 7)) (nI (a 8)) (nI (a 9)) (nI (a 10)) (nI (a 11)) (nI (a 12)) (fun j => nI (a (16 + j))) (fun j => nI (a (20 + j))) (fun j => nI (a (24 + j))) (nI (a 13)) (fun j => nI (a (46 + 3 * j))) (fun j => nI (a (46 + 3 * j + 1))) (fun j => nI (a (46 + 3 * j + 2))) (nI (a 42 + a 43 + a 44 + a 45)) (fun j => nI (a (42 + j))) u1 u2 u3 u4 u5 u6 u7 u8 fl fb fd := ⟨_, rfl⟩
  have er : o.1 = 1 := by rw [ho]; exact c_consistent (zAg_self a) hI u1 u2 u3 u4 u5 u6 u7 u8 fl fb fd
  have hc : ∀ sz, Met l yX8_isConsistent _ _ _ (zQi D (zOb w t q e1 e2 e3 e4 e5 ++ zTab cy t a ++ zBl cy w (o.2.1) (o.2.2.1) (o.2.2.2.1) (o.2.2.2.2.1) (o.2.2.2.2.2.1) (o.2.2.2.2.2.2.1) (o.2.2.2.2.2.2.2.1) (o.2.2.2.2.2.2.2.2.1) (o.2.2.2.2.2.2.2.2.2.1) (o.2.2.2.2.2.2.2.2.2.2.1) (o.2.2.2.2.2.2.2.2.2.2.2)) _ 1) _ _ _ := fun sz => z_wkI (c_X8_isConsistent l hE D cy hO (w 0) (w 1) (q 0) (w 3) (w 7) (w 8) (t 0) (t 1) (t 2) (t 3) (t 4) (t 5) (t 6) (t 7) (t 8) (t 9) (t 10) (t 11) (t 12) (w 4) (w 5) (w 6) e1 e2 e3 e4 e5 (nI (a 2)) (nI (a 0)) (nI (a 1)) (nI (a 3)) (nI (a 4)) (fun j => nI (a (30 + j))) (fun j => nI (a (34 + j))) (nI (mU a)) (nI (a 6)) (nI (a 7)) (nI (a 8)) (nI (a 9)) (nI (a 10)) (nI (a 11)) (nI (a 12)) (fun j => nI (a (16 + j))) (fun j => nI (a (20 + j))) (fun j => nI (a (24 + j))) (nI (a 13)) (fun j => nI (a (46 + 3 * j))) (fun j => nI (a (46 + 3 * j + 1))) (fun j => nI (a (46 + 3 * j + 2))) (nI (a 42 + a 43 + a 44 + a 45)) (nI (a 14)) (nI (a 15)) (fun j => nI (a (42 + j))) u1 u2 u3 u4 u5 u6 u7 u8 fl fb fd (zb_11 hB) (zb_12 hB) (zb_l hB) (zb_d hB) (zle_I ha13 (by omega)) sz) (by rw [← ho]; exact zSm_rf _) (by rw [← ho]; exact er)
  have hm := fun sz : Nat => c_X9_isConsistent l hE D cy (w 20) (w 21) (w 22) (w 23) (w 24) (w 25) (w 26) (w 27) (w 28) (w 29) v1 (nI n) v3 v4 e1 (nI nn) (nI L) v8 v9 v10 v11 sz
  refine ⟨1, zWl (cu f 4 (zBl cy w (o.2.1) (o.2.2.1) (o.2.2.2.1) (o.2.2.2.2.1) (o.2.2.2.2.2.1) (o.2.2.2.2.2.2.1) (o.2.2.2.2.2.2.2.1) (o.2.2.2.2.2.2.2.2.1) (o.2.2.2.2.2.2.2.2.2.1) (o.2.2.2.2.2.2.2.2.2.2.1) (o.2.2.2.2.2.2.2.2.2.2.2))) zLs, zWl (cu (cu f 4 (zBl cy w (o.2.1) (o.2.2.1) (o.2.2.2.1) (o.2.2.2.2.1) (o.2.2.2.2.2.1) (o.2.2.2.2.2.2.1) (o.2.2.2.2.2.2.2.1) (o.2.2.2.2.2.2.2.2.1) (o.2.2.2.2.2.2.2.2.2.1) (o.2.2.2.2.2.2.2.2.2.2.1) (o.2.2.2.2.2.2.2.2.2.2.2))) 20 (zMo w 0 (nI n) v3 v4 e1 (nI nn) (nI L) v8 v9 v10 v11)) zLs, [.ref (t 0), .ref (w 1), .ref (q 0), .int e1, .ref (w 3), .ref (w 7), .ref (w 8), .int e2, .int e3, .int e4, .int e5], zMv w v1 (nI n) v3 v4 e1 (nI nn) (nI L) v8 v9 v10 v11, _, _, _, _, _, _, _, _, ⟨by omega, by omega, by omega, by omega, by omega, by omega⟩, ?_, ?_, rb_i hE zLs_nd (by decide) h0 h1.1 k4 hc, L_i (ins := [20]) hE hm zLs_nd (by decide) (by decide) ?_ ?_ ?_, ⟨_, rfl, a, n, nn, L, e1, 0, ⟨e2, e3, e4, e5, v3, v4, v8, v9, v10, v11, h0, cu_s, hx1, hx2⟩, h1.go (by omega) hb ⟨rfl, rfl⟩, h2.go (by omega) hb ⟨rfl, rfl, fun j hj => ?_⟩, h3.go (by omega) hb ⟨rfl, rfl⟩, ⟨_, _, _, _, _, _, _, _, _, _, _, rfl⟩, h5.go ⟨rfl, rfl⟩, h6.go ⟨rfl, rfl, rfl, rfl⟩, h7.go ⟨rfl, rfl⟩, ⟨F, hF⟩, ⟨F', hF'⟩⟩⟩
  · show (f 30 ++ (f 31 ++ (f 0 ++ _)))[2]? = _
    rw [hF, hF', h0]
    rfl
  · show (f 30 ++ (f 31 ++ (f 0 ++ (f 20 ++ _))))[3]? = _
    rw [hF, hF', h0, h20]
    rfl
  · rw [zWl1]; show f 20 = _; rw [h20]; rfl
  · rw [zWl1]; rfl
  · intro k _ hk
    simp only [List.mem_cons, List.not_mem_nil, or_false] at hk
    rw [cu_n hk]
  · rw [cu_n (by omega), cu_n (by omega)]
end SEM
