/-! outputAt: the class's contract, and one call of the law -/
section OAT
set_option maxHeartbeats 1000000 in
set_option maxRecDepth 100000 in
theorem c_X8_outputAt (l : Launch) {E : zEn} (hE : zEok E) (D : zG) (cy : Nat → ClassId) (hOB : zOutB E) (o0 t0 y0 n0 b0 g0 a0 : Nat) (e1 e2 e3 e4 e5 : Int32) (x : zSBt) (t : Nat → Int32) (n i : Nat) (hi : i < n) (hn : n ≤ 120) (hx : zSB t n x) (sz : Nat) : Met l yX8_outputAt (zws yX8_outputAt cX8_outputAt 2 (some .char)) { frames := 6, cells := 0, slots := 0, locals := 241 } (zPre E D cy [.ref o0, .int (nI i)] (zObj o0 t0 y0 n0 b0 g0 a0 e1 e2 e3 e4 e5 ++ zSBw cy g0 x n) sz) (zQi D (zObj o0 t0 y0 n0 b0 g0 a0 e1 e2 e3 e4 e5 ++ zSBw cy g0 x n) (va_A (zObj o0 t0 y0 n0 b0 g0 a0 e1 e2 e3 e4 e5 ++ zSBw cy g0 x n) sz) (t i)) 0 0 (va_A (zObj o0 t0 y0 n0 b0 g0 a0 e1 e2 e3 e4 e5 ++ zSBw cy g0 x n) sz) := by
  refine z_of (Qc := fun A => zQi D (zObj o0 t0 y0 n0 b0 g0 a0 e1 e2 e3 e4 e5 ++ zSBw cy g0 x n) A (t i)) (by decide +kernel) (Nat.le_of_ble_eq_true rfl) rfl ?_
  intro pG eN sT mI below meth cO A ls C hRT hnm hA hP hD hS hE0 hl
  have hX := C.x
  have hB := C.b
  have hk := zk127z (hx.2.2 i hi).2
  have hin : ¬ n_X8_isIndex (nI i) (nI n) = 0 := by
    have h1 : ¬ nI i < 0 := fun h => by
      have := (nI_ltI (b := 0) (by omega) (by omega)).mp h
      omega
    have h2 : ¬ nI n ≤ nI i := fun h => by
      have := (nI_leI (by omega) (by omega)).mp h
      omega
    unfold n_X8_isIndex
    rw [if_neg h1, if_neg h2]
    decide
  refine lv_iload_n hX hB dX8_outputAt_0 rfl (lv_at hl 1 rfl) ?_
  refine lv_aload_n hX hB dX8_outputAt_1 rfl (lv_at hl 0 rfl) ?_
  refine fg_X8_36 C hP 0 rfl rfl dX8_outputAt_2 ?_
  refine z_sbLen hE C zs_X8_269 ⟨Nat.le_of_ble_eq_true rfl, Nat.le_of_ble_eq_true rfl⟩ hP hD hS hA hE0 hl.1 (Nat.le_of_ble_eq_true rfl) rfl dX8_outputAt_5 ⟨Nat.le_of_ble_eq_true rfl, Nat.le_of_ble_eq_true rfl⟩ (fun H locs hP hD hS => ?_)
  refine z_callSv (isC := []) (isR := [0, 1, 2]) (isO := [0, 1, 2]) (()) (q_X8_requireIndex ) (fun o_1 => zObj o0 t0 y0 n0 b0 g0 a0 e1 e2 e3 e4 e5 ++ zSBw cy g0 x n) (c_X8_requireIndex l hE D cy (nI i) (nI n) hin) hE C zs_X8_84 ⟨Nat.le_of_ble_eq_true rfl, Nat.le_of_ble_eq_true rfl⟩ hP hD hS hA hE0 ⟨rfl, rfl, rfl, by decide, rfl, rfl, rfl⟩ rfl hl.1 (Nat.le_of_ble_eq_true rfl) rfl dX8_outputAt_8 ⟨Nat.le_of_ble_eq_true rfl, Nat.le_of_ble_eq_true rfl⟩ (fun o_1 H locs eo_1 hP hD hS => ?_)
  refine lv_aload_n hX hB dX8_outputAt_11 rfl (lv_at hl 0 rfl) ?_
  refine fg_X8_36 C hP 0 rfl rfl dX8_outputAt_12 ?_
  refine lv_iload_n hX hB dX8_outputAt_15 rfl (lv_at hl 1 rfl) ?_
  refine z_sbChar hi hx hE hOB C zs_X8_273 ⟨Nat.le_of_ble_eq_true rfl, Nat.le_of_ble_eq_true rfl⟩ hP hD hS hA hE0 hl.1 (Nat.le_of_ble_eq_true rfl) rfl dX8_outputAt_16 ⟨Nat.le_of_ble_eq_true rfl, Nat.le_of_ble_eq_true rfl⟩ (fun H locs hP hD hS => ?_)
  exact z_zret C hRT (by have h9 := pk_nc (t i); rw [hk.2] at h9; exact h9) hP hD hS (Nat.le_of_ble_eq_true rfl) (Nat.le_of_ble_eq_true rfl) rfl rfl dX8_outputAt_19
set_option maxHeartbeats 1000000 in
set_option maxRecDepth 100000 in
theorem c_X8_outputAt_e (l : Launch) {E : zEn} (hE : zEok E) (D : zG) (cy : Nat → ClassId) (hL0 : l.stackTraces = false) (hOX : zOutX E) (o0 t0 y0 n0 b0 g0 a0 : Nat) (e1 e2 e3 e4 e5 : Int32) (x : zSBt) (n : Nat) (i : Int32) (hin : n_X8_isIndex i (nI n) = 0) (sz : Nat) : vx_Met l yX8_outputAt (zws yX8_outputAt cX8_outputAt 2 (some .char)) { frames := 7, cells := 1, slots := 6, locals := 130 } (zPre E D cy [.ref o0, .int i] (zObj o0 t0 y0 n0 b0 g0 a0 e1 e2 e3 e4 e5 ++ zSBw cy g0 x n) sz) zNo (zX D (zObj o0 t0 y0 n0 b0 g0 a0 e1 e2 e3 e4 e5 ++ zSBw cy g0 x n) (va_A (zObj o0 t0 y0 n0 b0 g0 a0 e1 e2 e3 e4 e5 ++ zSBw cy g0 x n) sz) "java/lang/IndexOutOfBoundsException") 1 6 (va_A (zObj o0 t0 y0 n0 b0 g0 a0 e1 e2 e3 e4 e5 ++ zSBw cy g0 x n) sz) := by
  refine z_ofx (XC := fun A => zX D (zObj o0 t0 y0 n0 b0 g0 a0 e1 e2 e3 e4 e5 ++ zSBw cy g0 x n) A "java/lang/IndexOutOfBoundsException") (by decide +kernel) (Nat.le_of_ble_eq_true rfl) rfl ?_
  intro pG eN sT mI below meth cO A ls C hT hA hP hD hS hE0 hl
  have hX := C.x
  have hB := C.b
  refine lv_iload_n hX hB dX8_outputAt_0 rfl (lv_at hl 1 rfl) ?_
  refine lv_aload_n hX hB dX8_outputAt_1 rfl (lv_at hl 0 rfl) ?_
  refine fg_X8_36 C hP 0 rfl rfl dX8_outputAt_2 ?_
  refine z_sbLen hE C zs_X8_269 ⟨Nat.le_of_ble_eq_true rfl, Nat.le_of_ble_eq_true rfl⟩ hP hD hS hA hE0 hl.1 (Nat.le_of_ble_eq_true rfl) rfl dX8_outputAt_5 ⟨Nat.le_of_ble_eq_true rfl, Nat.le_of_ble_eq_true rfl⟩ (fun H locs hP hD hS => ?_)
  exact z_callSx (isC := []) (isR := [0, 1, 2]) (isO := [0, 1, 2]) (wc' := (q_X8_requireIndex_e ) ()) (c_X8_requireIndex_e l hE D cy hL0 hOX i (nI n) hin) hE C hT zs_X8_84 ⟨Nat.le_of_ble_eq_true rfl, Nat.le_of_ble_eq_true rfl⟩ hP hD hS hA hE0 ⟨rfl, rfl, rfl, by decide, rfl, rfl, rfl⟩ rfl hl.1 (Nat.le_of_ble_eq_true rfl) rfl dX8_outputAt_8 ⟨Nat.le_of_ble_eq_true rfl, Nat.le_of_ble_eq_true rfl⟩ ⟨Nat.le_of_ble_eq_true rfl, Nat.le_of_ble_eq_true rfl⟩
end OAT
section SEM
variable {l : Launch} {E : zEn} {D : zG} {cy : Nat → ClassId} {ad w t q : Nat → Nat} {s : Nat → Nat → Nat} {b : Nat} {f : Nat → va_W}
set_option maxHeartbeats 400000 in
set_option maxRecDepth 100000 in
theorem s_outputAt (x : Int32) (hE : zEok E) (hL0 : l.stackTraces = false) (hX : zOutX E) (hN : zOutN E) (hO : zOut E) (hOB : zOutB E) {adK adV : Nat → Nat} (hOC : zOutC E ad adK adV) (hb : b + 12 ≤ 20000) (h : zAll cy ad w t q s b f) : zKI l E D cy yL_outputAt cL_outputAt 4 [(0, 9, 12, 24)] yX9_outputAt cX9_outputAt 2 (some .char) Int32.toInt64 [.int x] (w 0) (w 20) (w 30) (zWl f zLs) (zPo cy ad w t q s (b + 12)) := by
  obtain ⟨a, n, nn, L, e1, v1, ⟨e2, e3, e4, e5, v3, v4, v8, v9, v10, v11, h0, h20, hx1, hx2⟩, h1, h2, h3, h4, h5, h6, h7, ⟨F, hF⟩, ⟨F', hF'⟩⟩ := h
  have hB := h1.2.2.1
  have hI := h1.2.2
  have hW := hW_of h0 hF'
  obtain ⟨X, tt, go, g1, g2, g3, g4, g5⟩ := id h5
  rcases ix_c x (N := nn) (by omega) with ⟨i, hi, rfl⟩ | ⟨hc, hm⟩
  · have hk := zk127z (g3.2.2 i hi).2
    have h9 := fun sz : Nat => c_X9_outputAt_ok l hE D cy (w 20) (w 21) (w 22) (w 23) (w 24) (w 25) (w 26) (w 27) (w 28) (w 29) v1 (nI n) v3 v4 e1 (nI nn) (nI L) v8 v9 v10 v11 go (nI i) i (zi_i i) (by rw [zn_I (by omega)]; exact hi) (zle_I g1 (by omega)) sz
    have e9 : n_X9_outputAt_ok go i = (tt i, 0) := by
      unfold n_X9_outputAt_ok
      rw [g5 i hi, hk.2]
    rw [e9] at h9
    exact rd_of hE hb h0 h20 hx1 hx2 h1 h2 h3 h4 h5 h6 h7 hF hF' ⟨by omega, by omega, by omega, by omega, by omega, by omega⟩ (k_outputAt l hE D cy (w 0) (w 30) F (nI i) hW (L_i (ins := [0, 5]) hE (fun sz => c_X8_outputAt l hE D cy hOB (w 0) (t 0) (w 1) (q 0) (w 3) (w 7) (w 8) e1 e2 e3 e4 e5 X tt nn i hi g1 g3 sz) zTl_nd (by decide) (by decide) (by rw [zWl2, h0, g2]; rfl) (by rw [zWl2, h0, g2]; rfl) (fun _ _ _ => rfl))) (rm_i (ins := [20, 26]) hE h9 (by decide) (by decide) (by decide) (by rw [zWl2]; show f 20 ++ f 26 = _; rw [h20, g4]; rfl) (by rw [zWl2]; show _ ++ f 26 = _; rw [g4]; rfl)) (fun _ => rfl)
  · have h9 := fun sz : Nat => c_X9_outputAt_1 l hE D cy (w 20) (w 21) (w 22) (w 23) (w 24) (w 25) (w 26) (w 27) (w 28) (w 29) v1 (nI n) v3 v4 e1 (nI nn) (nI L) v8 v9 v10 v11 go x hm sz
    exact rd_of hE hb h0 h20 hx1 hx2 h1 h2 h3 h4 h5 h6 h7 hF hF' ⟨by omega, by omega, by omega, by omega, by omega, by omega⟩ (k_outputAt_e1 l hE D cy (w 0) (w 30) F x hW hN hX (L_x (ins := [0, 5]) hE (fun sz => c_X8_outputAt_e l hE D cy hL0 hX (w 0) (t 0) (w 1) (q 0) (w 3) (w 7) (w 8) e1 e2 e3 e4 e5 X nn x hc sz) zTl_nd (by decide) (by decide) (by rw [zWl2, h0, g2]; rfl) (by rw [zWl2, h0, g2]; rfl) (fun _ _ _ => rfl))) (rm_i (ins := [20, 26]) hE h9 (by decide) (by decide) (by decide) (by rw [zWl2]; show f 20 ++ f 26 = _; rw [h20, g4]; rfl) (by rw [zWl2]; show _ ++ f 26 = _; rw [g4]; rfl)) (fun hk => absurd hk (by decide))
end SEM
