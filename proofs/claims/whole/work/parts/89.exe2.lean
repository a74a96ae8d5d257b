theorem ix_ok {x : Int32} {n : Nat} (hn : n < 2 ^ 31) (h : ¬ n_X8_isIndex x (nI n) = 0) : zi x (zn x) ∧ zn x < n := by
  unfold n_X8_isIndex at h
  rcases pk_ix x hn with q | q | ⟨j, hj, rfl⟩
  · rw [if_pos q] at h; exact absurd rfl h
  · by_cases q0 : x < 0
    · rw [if_pos q0] at h; exact absurd rfl h
    · rw [if_neg q0, if_pos q] at h; exact absurd rfl h
  · rw [zn_I (by omega)]; exact ⟨rfl, hj⟩
theorem fo_ok {x : Int32} (h : ¬ n_X8_isForce x = 0) : zi x (zn x) ∧ 1 ≤ zn x ∧ zn x ≤ 3 := by
  unfold n_X8_isForce at h
  by_cases q1 : x < 1
  · rw [if_pos q1] at h; exact absurd rfl h
  rw [if_neg q1] at h
  by_cases q3 : 3 < x
  · rw [if_pos q3] at h; exact absurd rfl h
  rcases pk_ix x (n := 4) (by omega) with q | q | ⟨j, hj, rfl⟩
  · exfalso
    apply q1
    rw [Int32.lt_iff_toInt_lt] at q ⊢
    have e0 : (0 : Int32).toInt = 0 := by decide
    have e1 : (1 : Int32).toInt = 1 := by decide
    omega
  · exfalso
    apply q3
    rw [Int32.le_iff_toInt_le] at q
    rw [Int32.lt_iff_toInt_lt]
    have e4 : (nI 4).toInt = 4 := by decide
    have e3 : (3 : Int32).toInt = 3 := by decide
    omega
  · rw [zn_I (by omega)]
    refine ⟨rfl, ?_, by omega⟩
    by_cases e : j = 0
    · subst e; exact absurd (by decide) q1
    · omega
/-- what a command does -/
def zOp (a : Nat → Nat) (i : Nat) (v : Int32) : Nat → Nat :=
  if i = 0 then mAdds a else if i = 1 then mStarts a else if i = 2 then (mLane a (zn v)).2 else if i = 3 then (mBump a (zn v)).2 else if i = 4 then (mTarg a (zn v)).2 else if i = 5 then (mNudge a (zn v)).2 else if i = 6 then (mDrain a).2 else um a 0 0
theorem zAl_k {b : Nat} {a : Nat → Nat} {i : Nat} {v : Int32} (hB : zBd b a) (hi : i < 8) (h : ¬ zAl a i v = 0) : (i = 0 → a 0 = 0 ∧ a 2 ≤ 3) ∧ (i = 1 → a 0 = 0 ∧ 1 ≤ a 2) ∧ (2 ≤ i → a 0 = 1) ∧ (i = 2 → zi v (zn v) ∧ zn v < 4) ∧ (i = 3 → zi v (zn v) ∧ zn v < 3) ∧ (i = 4 → zi v (zn v) ∧ zn v < 5) ∧ (i = 5 → zi v (zn v) ∧ zn v ≤ 3) := by
  have g1 := hB.2.1
  have g3 := hB.2.2.2.1
  have z0 : nI (a 0) = 0 ↔ a 0 = 0 := by rw [lI0]; exact nI_eq (by omega) (by omega)
  obtain rfl | rfl | rfl | rfl | rfl | rfl | rfl | rfl : i = 0 ∨ i = 1 ∨ i = 2 ∨ i = 3 ∨ i = 4 ∨ i = 5 ∨ i = 6 ∨ i = 7 := by omega
  · refine ⟨fun _ => ?_, fun q => by omega, fun q => by omega, fun q => by omega, fun q => by omega, fun q => by omega, fun q => by omega⟩
    have h' : ¬ n_X6_canAdmit (nI (a 2)) (nI (a 0)) = 0 := h
    unfold n_X6_canAdmit at h'
    by_cases q : a 0 = 0
    · rw [if_pos (z0.mpr q)] at h'
      refine ⟨q, ?_⟩
      by_cases q4 : 4 ≤ a 2
      · rw [if_pos (by rw [lI4]; exact (nI_leI (by omega) (by omega)).mpr q4)] at h'
        exact absurd rfl h'
      · omega
    · rw [if_neg (fun z => q (z0.mp z))] at h'
      exact absurd rfl h'
  · refine ⟨fun q => by omega, fun _ => ?_, fun q => by omega, fun q => by omega, fun q => by omega, fun q => by omega, fun q => by omega⟩
    rw [zAl_1] at h
    by_cases q : a 0 = 0
    · rw [if_pos (z0.mpr q)] at h
      refine ⟨q, ?_⟩
      by_cases q4 : a 2 ≤ 0
      · rw [if_pos (by rw [lI0]; exact (nI_leI (by omega) (by omega)).mpr q4)] at h
        exact absurd rfl h
      · omega
    · rw [if_neg (fun z => q (z0.mp z))] at h
      exact absurd rfl h
  · rw [zAl_2] at h
    by_cases q : a 0 = 0
    · rw [if_pos (z0.mpr q)] at h; exact absurd rfl h
    rw [if_neg (fun z => q (z0.mp z))] at h
    have k := ix_ok (n := 4) (by omega) (fun z => by rw [show n_X8_isIndex v 4 = 0 from z, if_pos rfl] at h; exact h rfl)
    exact ⟨fun q => by omega, fun q => by omega, fun _ => by omega, fun _ => k, fun q => by omega, fun q => by omega, fun q => by omega⟩
  · rw [zAl_3] at h
    by_cases q : a 0 = 0
    · rw [if_pos (z0.mpr q)] at h; exact absurd rfl h
    rw [if_neg (fun z => q (z0.mp z))] at h
    have k := ix_ok (n := 3) (by omega) (fun z => by rw [show n_X8_isIndex v 3 = 0 from z, if_pos rfl] at h; exact h rfl)
    exact ⟨fun q => by omega, fun q => by omega, fun _ => by omega, fun q => by omega, fun _ => k, fun q => by omega, fun q => by omega⟩
  · rw [zAl_4] at h
    by_cases q : a 0 = 0
    · rw [if_pos (z0.mpr q)] at h; exact absurd rfl h
    rw [if_neg (fun z => q (z0.mp z))] at h
    have k := ix_ok (n := 5) (by omega) (fun z => by rw [show n_X8_isIndex v 5 = 0 from z, if_pos rfl] at h; exact h rfl)
    exact ⟨fun q => by omega, fun q => by omega, fun _ => by omega, fun q => by omega, fun q => by omega, fun _ => k, fun q => by omega⟩
  · rw [zAl_5] at h
    by_cases q : a 0 = 0
    · rw [if_pos (z0.mpr q)] at h; exact absurd rfl h
    rw [if_neg (fun z => q (z0.mp z))] at h
    have k := fo_ok (fun z => by rw [z, if_pos rfl] at h; exact h rfl)
    exact ⟨fun q => by omega, fun q => by omega, fun _ => by omega, fun q => by omega, fun q => by omega, fun q => by omega, fun _ => ⟨k.1, k.2.2⟩⟩
  · have h' : ¬ nI (a 0) = 0 := h
    have q : ¬ a 0 = 0 := fun z => h' (z0.mpr z)
    exact ⟨fun q => by omega, fun q => by omega, fun _ => by omega, fun q => by omega, fun q => by omega, fun q => by omega, fun q => by omega⟩
  · have h' : ¬ nI (a 0) = 0 := h
    have q : ¬ a 0 = 0 := fun z => h' (z0.mpr z)
    exact ⟨fun q => by omega, fun q => by omega, fun _ => by omega, fun q => by omega, fun q => by omega, fun q => by omega, fun q => by omega⟩
theorem in_op {b : Nat} {a : Nat → Nat} {i : Nat} {v : Int32} (h : zInv b a) (hb : b + 1 ≤ 20000) (hi : i < 8) (hal : ¬ zAl a i v = 0) : zInv (b + 1) (zOp a i v) := by
  obtain ⟨k0, k1, k2, k3, k4, k5, k6⟩ := zAl_k h.1 hi hal
  obtain rfl | rfl | rfl | rfl | rfl | rfl | rfl | rfl : i = 0 ∨ i = 1 ∨ i = 2 ∨ i = 3 ∨ i = 4 ∨ i = 5 ∨ i = 6 ∨ i = 7 := by omega
  · exact in_adds h hb (k0 rfl).2
  · exact in_starts h hb (k1 rfl).1 (k1 rfl).2
  · exact in_lane h hb (k2 (by omega)) (k3 rfl).2
  · exact in_bump h hb (k2 (by omega)) (k4 rfl).2
  · exact in_targ h hb (k2 (by omega)) (k5 rfl).2
  · exact in_nudge h hb (k2 (by omega))
  · exact (in_drain h hb (k2 (by omega))).1
  · exact in_quits h hb
set_option maxHeartbeats 4000000 in
set_option maxRecDepth 100000 in
theorem c_X6_execute (l : Launch) {E : zEn} (hE : zEok E) (D : zG) (cy : Nat → ClassId) (hO : zOut E) {ad adK adV : Nat → Nat} (hOC : zOutC E ad adK adV) (t : Nat → Nat) (b : Nat) (a : Nat → Nat) (hI : zInv b a) (hb : b + 1 ≤ 20000) (i : Nat) (hi : i < 8) (v : Int32) (sz : Nat) : Met l yX6_execute (zws yX6_execute cX6_execute 3 (some .boolean)) { frames := 5, cells := 0, slots := 0, locals := 102 } (zPre E D cy [.ref (t 0), .ref (ad i), .int v] (zTab cy t a) sz) (zQi D (zTab cy t (if zAl a i v = 0 then a else zOp a i v)) (va_A (zTab cy t a) sz) (if zAl a i v = 0 then 0 else 1)) 0 0 (va_A (zTab cy t a) sz) := by
  refine z_of (Qc := fun A => zQi D (zTab cy t (if zAl a i v = 0 then a else zOp a i v)) A (if zAl a i v = 0 then 0 else 1)) (by decide +kernel) (Nat.le_of_ble_eq_true rfl) rfl ?_
  intro pG eN sT mI below meth cO A ls C hRT hnm hA hP hD hS hE0 hl
  have hX := C.x
  have hB := C.b
  have hB0 := hI.1
  have g1 := hB0.2.1
  refine lv_aload_n hX hB dX6_execute_0 rfl (lv_at hl 1 rfl) ?_
  refine lv_ifnull hX hB dX6_execute_1 ?_
  refine lv_aload_n hX hB dX6_execute_4 rfl (lv_at hl 0 rfl) ?_
  refine lv_aload_n hX hB dX6_execute_5 rfl (lv_at hl 1 rfl) ?_
  refine lv_iload_n hX hB dX6_execute_6 rfl (lv_at hl 2 rfl) ?_
  refine z_callVi (isC := [0, 1, 2, 3, 4, 5, 6, 7, 8, 9, 10, 11, 12]) (isR := []) (isO := [0, 1, 2, 3, 4, 5, 6, 7, 8, 9, 10, 11, 12]) (zAl a i v) (fun _ => zTab cy t a) (fun _ => zTab cy t a) (fun o => o) (c_X6_allows l hE D cy hO hOC t a i hi g1 v) hE C zs_X6_158 ⟨Nat.le_of_ble_eq_true rfl, Nat.le_of_ble_eq_true rfl⟩ hP hD hS hA hE0 ⟨rfl, rfl, rfl, by decide, rfl, rfl, rfl⟩ 0 rfl rfl rfl rfl hl.1 (Nat.le_of_ble_eq_true rfl) rfl dX6_execute_7 ⟨Nat.le_of_ble_eq_true rfl, Nat.le_of_ble_eq_true rfl⟩ (fun o H locs eo hP hD hS => ?_)
  subst eo
  refine lv_if_ne (tgt := 15) hX hB dX6_execute_10 (by decide) (fun c1 => ?_) (fun c1 => ?_)
  rotate_left
  · refine lv_iconst (v := 0) hX hB dX6_execute_13 (by decide) ?_
    exact z_zret C hRT (zb01 (Or.inl rfl)) hP hD hS (Nat.le_of_ble_eq_true rfl) (Nat.le_of_ble_eq_true rfl) (by rw [if_pos c1]) (by rw [if_pos c1]) dX6_execute_14
  obtain ⟨k0, k1, k2, k3, k4, k5, k6⟩ := zAl_k hB0 hi c1
  obtain ⟨g_0, g_1, g_2, g_3, g_4, g_5, g_6, g_7, g_8, g_9, g_10, g_11, g_12, g_13, g_14, g_15, g_l, g_b, g_d, g_r, g_p, g_z⟩ := hB0
  have hB0 := hI.1
  have zp1 : zle (nI (a 2)) 4 := zle_I g_3 (by omega)
  have zp4 : zle (nI (a 3)) 3 := zle_I g_4 (by omega)
  have zr1 : zle (nI (a 13)) 5 := zle_I g_13 (by omega)
  have S := zAg_self a
  obtain ⟨_, ⟨tS, hZ, hTS⟩, _, _, _⟩ := hOC _ _ _ hE0
  refine va_gets hX hB hZ hS C.o (C.ts _ zm1401) (fun _ h => h) dX6_execute_15 ?_
  refine lv_aload_n hX hB dX6_execute_18 rfl (lv_at hl 1 rfl) ?_
  refine z_ord hOC hE C hP hD hS hA hE0 hi ⟨Nat.le_of_ble_eq_true rfl, Nat.le_of_ble_eq_true rfl⟩ hl.1 (Nat.le_of_ble_eq_true rfl) dX6_execute_19 ⟨Nat.le_of_ble_eq_true rfl, Nat.le_of_ble_eq_true rfl⟩ (fun H locs hP hD hS => ?_)
  refine va_ti hX hB hTS hS (i := nI i) (zi_in (k := i) (zi_i i) hi (by decide)) (v := .int (if i < 7 then nI (i + 1) else 0)) (by rw [zi_cl (zi_i i) hi (by decide)]) dX6_execute_22 ?_
  obtain rfl | rfl | rfl | rfl | rfl | rfl | rfl | rfl : i = 0 ∨ i = 1 ∨ i = 2 ∨ i = 3 ∨ i = 4 ∨ i = 5 ∨ i = 6 ∨ i = 7 := by omega

  · refine lv_tableIn (off := 41) (tgt := 64) hX hB dX6_execute_23 (by decide) (by decide) rfl (by decide) ?_
    refine lv_aload_n hX hB dX6_execute_64 rfl (lv_at hl 0 rfl) ?_
    refine z_callVi (isC := [0, 1, 2, 3, 4, 5, 6, 7, 8, 9, 10, 11, 12]) (isR := []) (isO := [0, 1, 2, 3, 4, 5, 6, 7, 8, 9, 10, 11, 12]) (n_X6_admit (nI (a 2)) (fun j => nI (a (30 + j))) (fun j => nI (a (34 + j)))) (q_X6_admit cy (t 0) (t 1) (t 2) (t 3) (t 4) (t 5) (t 6) (t 7) (t 8) (t 9) (t 10) (t 11) (t 12) (nI (a 0)) (nI (a 1)) (nI (a 3)) (nI (a 4)) (nI (mU a)) (nI (a 6)) (nI (a 7)) (nI (a 8)) (nI (a 9)) (nI (a 10)) (nI (a 11)) (nI (a 12)) (fun j => nI (a (16 + j))) (fun j => nI (a (20 + j))) (fun j => nI (a (24 + j))) (nI (a 13)) (fun j => nI (a (46 + 3 * j))) (fun j => nI (a (46 + 3 * j + 1))) (fun j => nI (a (46 + 3 * j + 2))) (nI (a 42 + a 43 + a 44 + a 45)) (nI (a 14)) (nI (a 15)) (fun j => nI (a (42 + j)))) (q_X6_admit cy (t 0) (t 1) (t 2) (t 3) (t 4) (t 5) (t 6) (t 7) (t 8) (t 9) (t 10) (t 11) (t 12) (nI (a 0)) (nI (a 1)) (nI (a 3)) (nI (a 4)) (nI (mU a)) (nI (a 6)) (nI (a 7)) (nI (a 8)) (nI (a 9)) (nI (a 10)) (nI (a 11)) (nI (a 12)) (fun j => nI (a (16 + j))) (fun j => nI (a (20 + j))) (fun j => nI (a (24 + j))) (nI (a 13)) (fun j => nI (a (46 + 3 * j))) (fun j => nI (a (46 + 3 * j + 1))) (fun j => nI (a (46 + 3 * j + 2))) (nI (a 42 + a 43 + a 44 + a 45)) (nI (a 14)) (nI (a 15)) (fun j => nI (a (42 + j)))) (fun o => o.1) (c_X6_admit l hE D cy (t 0) (t 1) (t 2) (t 3) (t 4) (t 5) (t 6) (t 7) (t 8) (t 9) (t 10) (t 11) (t 12) (nI (a 2)) (nI (a 0)) (nI (a 1)) (nI (a 3)) (nI (a 4)) (fun j => nI (a (30 + j))) (fun j => nI (a (34 + j))) (nI (mU a)) (nI (a 6)) (nI (a 7)) (nI (a 8)) (nI (a 9)) (nI (a 10)) (nI (a 11)) (nI (a 12)) (fun j => nI (a (16 + j))) (fun j => nI (a (20 + j))) (fun j => nI (a (24 + j))) (nI (a 13)) (fun j => nI (a (46 + 3 * j))) (fun j => nI (a (46 + 3 * j + 1))) (fun j => nI (a (46 + 3 * j + 2))) (nI (a 42 + a 43 + a 44 + a 45)) (nI (a 14)) (nI (a 15)) (fun j => nI (a (42 + j))) (zle_I (k0 rfl).2 (by omega))) hE C zs_X6_172 ⟨Nat.le_of_ble_eq_true rfl, Nat.le_of_ble_eq_true rfl⟩ hP hD hS hA hE0 ⟨rfl, rfl, rfl, by decide, rfl, rfl, rfl⟩ 0 rfl rfl rfl rfl hl.1 (Nat.le_of_ble_eq_true rfl) rfl dX6_execute_65 ⟨Nat.le_of_ble_eq_true rfl, Nat.le_of_ble_eq_true rfl⟩ (fun o H locs eo hP hD hS => ?_)
    subst eo
    have hAg := (f_admit S hB0 (k0 rfl).2).2
    have hP := zSm_P (zAg_Sm cy t hAg) hP
    have hD := zSm_D (zAg_Sm cy t hAg) hD
    refine lv_pop hX hB dX6_execute_68 rfl ?_
    refine lv_goto (tgt := 129) hX hB dX6_execute_69 (by decide) ?_
    refine lv_iconst (v := 1) hX hB dX6_execute_129 (by decide) ?_
    exact z_zret C hRT (zb01 (Or.inr rfl)) hP hD hS (Nat.le_of_ble_eq_true rfl) (Nat.le_of_ble_eq_true rfl) (by rw [if_neg c1]) (by rw [if_neg c1]; rfl) dX6_execute_130
  · refine lv_tableIn (off := 49) (tgt := 72) hX hB dX6_execute_23 (by decide) (by decide) rfl (by decide) ?_
    refine lv_aload_n hX hB dX6_execute_72 rfl (lv_at hl 0 rfl) ?_
    refine z_callVi (isC := [0, 1, 2, 3, 4, 5, 6, 7, 8, 9, 10, 11, 12]) (isR := []) (isO := [0, 1, 2, 3, 4, 5, 6, 7, 8, 9, 10, 11, 12]) (n_X6_beginGame (nI (a 2)) (nI (a 1)) (fun j => nI (a (30 + j))) (fun j => nI (a (34 + j))) (fun j => nI (a (16 + j))) (fun j => nI (a (20 + j))) (fun j => nI (a (24 + j)))) (q_X6_beginGame cy (t 0) (t 1) (t 2) (t 3) (t 4) (t 5) (t 6) (t 7) (t 8) (t 9) (t 10) (t 11) (t 12) (nI (a 2)) (nI (a 13)) (fun j => nI (a (46 + 3 * j))) (fun j => nI (a (46 + 3 * j + 1))) (fun j => nI (a (46 + 3 * j + 2))) (nI (a 42 + a 43 + a 44 + a 45)) (nI (a 14)) (nI (a 15)) (fun j => nI (a (42 + j)))) (q_X6_beginGame cy (t 0) (t 1) (t 2) (t 3) (t 4) (t 5) (t 6) (t 7) (t 8) (t 9) (t 10) (t 11) (t 12) (nI (a 2)) (nI (a 13)) (fun j => nI (a (46 + 3 * j))) (fun j => nI (a (46 + 3 * j + 1))) (fun j => nI (a (46 + 3 * j + 2))) (nI (a 42 + a 43 + a 44 + a 45)) (nI (a 14)) (nI (a 15)) (fun j => nI (a (42 + j)))) (fun o => o.1) (c_X6_beginGame l hE D cy hO (t 0) (t 1) (t 2) (t 3) (t 4) (t 5) (t 6) (t 7) (t 8) (t 9) (t 10) (t 11) (t 12) (nI (a 2)) (nI (a 0)) (nI (a 1)) (nI (a 3)) (nI (a 4)) (fun j => nI (a (30 + j))) (fun j => nI (a (34 + j))) (nI (mU a)) (nI (a 6)) (nI (a 7)) (nI (a 8)) (nI (a 9)) (nI (a 10)) (nI (a 11)) (nI (a 12)) (fun j => nI (a (16 + j))) (fun j => nI (a (20 + j))) (fun j => nI (a (24 + j))) (nI (a 13)) (fun j => nI (a (46 + 3 * j))) (fun j => nI (a (46 + 3 * j + 1))) (fun j => nI (a (46 + 3 * j + 2))) (nI (a 42 + a 43 + a 44 + a 45)) (nI (a 14)) (nI (a 15)) (fun j => nI (a (42 + j))) zp1) hE C zs_X6_175 ⟨Nat.le_of_ble_eq_true rfl, Nat.le_of_ble_eq_true rfl⟩ hP hD hS hA hE0 ⟨rfl, rfl, rfl, by decide, rfl, rfl, rfl⟩ 0 rfl rfl rfl rfl hl.1 (Nat.le_of_ble_eq_true rfl) rfl dX6_execute_73 ⟨Nat.le_of_ble_eq_true rfl, Nat.le_of_ble_eq_true rfl⟩ (fun o H locs eo hP hD hS => ?_)
    subst eo
    have hAg := (f_begin S hB0 (k1 rfl).2).2
    have hP := zSm_P (zAg_Sm cy t hAg) hP
    have hD := zSm_D (zAg_Sm cy t hAg) hD
    refine lv_pop hX hB dX6_execute_76 rfl ?_
    refine lv_goto (tgt := 129) hX hB dX6_execute_77 (by decide) ?_
    refine lv_iconst (v := 1) hX hB dX6_execute_129 (by decide) ?_
    exact z_zret C hRT (zb01 (Or.inr rfl)) hP hD hS (Nat.le_of_ble_eq_true rfl) (Nat.le_of_ble_eq_true rfl) (by rw [if_neg c1]) (by rw [if_neg c1]; rfl) dX6_execute_130
  · refine lv_tableIn (off := 57) (tgt := 80) hX hB dX6_execute_23 (by decide) (by decide) rfl (by decide) ?_
    refine lv_aload_n hX hB dX6_execute_80 rfl (lv_at hl 0 rfl) ?_
    refine lv_iload_n hX hB dX6_execute_81 rfl (lv_at hl 2 rfl) ?_
    refine z_callVi (isC := [0, 1, 2, 3, 4, 5, 6, 7, 8, 9, 10, 11, 12]) (isR := []) (isO := [0, 1, 2, 3, 4, 5, 6, 7, 8, 9, 10, 11, 12]) (n_X6_playLane (nI (a 3)) (fun j => nI (a (30 + j))) (fun j => nI (a (34 + j))) (nI (mU a)) (nI (a 8)) (nI (a 10)) (nI (a 11)) (fun j => nI (a (16 + j))) (nI (a 42 + a 43 + a 44 + a 45)) (fun j => nI (a (42 + j))) (zn v)) (q_X6_playLane cy (t 0) (t 1) (t 2) (t 3) (t 4) (t 5) (t 6) (t 7) (t 8) (t 9) (t 10) (t 11) (t 12) (nI (a 2)) (nI (a 0)) (nI (a 1)) (nI (a 3)) (nI (a 4)) (nI (a 6)) (nI (a 7)) (nI (a 9)) (nI (a 11)) (nI (a 12)) (fun j => nI (a (20 + j))) (fun j => nI (a (24 + j))) (nI (a 13)) (fun j => nI (a (46 + 3 * j))) (fun j => nI (a (46 + 3 * j + 1))) (fun j => nI (a (46 + 3 * j + 2))) (nI (a 14)) (nI (a 15))) (q_X6_playLane cy (t 0) (t 1) (t 2) (t 3) (t 4) (t 5) (t 6) (t 7) (t 8) (t 9) (t 10) (t 11) (t 12) (nI (a 2)) (nI (a 0)) (nI (a 1)) (nI (a 3)) (nI (a 4)) (nI (a 6)) (nI (a 7)) (nI (a 9)) (nI (a 11)) (nI (a 12)) (fun j => nI (a (20 + j))) (fun j => nI (a (24 + j))) (nI (a 13)) (fun j => nI (a (46 + 3 * j))) (fun j => nI (a (46 + 3 * j + 1))) (fun j => nI (a (46 + 3 * j + 2))) (nI (a 14)) (nI (a 15))) (fun o => o.1) (c_X6_playLane l hE D cy hO (t 0) (t 1) (t 2) (t 3) (t 4) (t 5) (t 6) (t 7) (t 8) (t 9) (t 10) (t 11) (t 12) (nI (a 2)) (nI (a 0)) (nI (a 1)) (nI (a 3)) (nI (a 4)) (fun j => nI (a (30 + j))) (fun j => nI (a (34 + j))) (nI (mU a)) (nI (a 6)) (nI (a 7)) (nI (a 8)) (nI (a 9)) (nI (a 10)) (nI (a 11)) (nI (a 12)) (fun j => nI (a (16 + j))) (fun j => nI (a (20 + j))) (fun j => nI (a (24 + j))) (nI (a 13)) (fun j => nI (a (46 + 3 * j))) (fun j => nI (a (46 + 3 * j + 1))) (fun j => nI (a (46 + 3 * j + 2))) (nI (a 42 + a 43 + a 44 + a 45)) (nI (a 14)) (nI (a 15)) (fun j => nI (a (42 + j))) v (zn v) (k3 rfl).1 (Nat.le_of_lt_succ (k3 rfl).2) zp4) hE C zs_X6_178 ⟨Nat.le_of_ble_eq_true rfl, Nat.le_of_ble_eq_true rfl⟩ hP hD hS hA hE0 ⟨rfl, rfl, rfl, by decide, rfl, rfl, rfl⟩ 0 rfl rfl rfl rfl hl.1 (Nat.le_of_ble_eq_true rfl) rfl dX6_execute_82 ⟨Nat.le_of_ble_eq_true rfl, Nat.le_of_ble_eq_true rfl⟩ (fun o H locs eo hP hD hS => ?_)
    subst eo
    have hAg := (f_lane S hB0 (k2 (by omega)) (k3 rfl).2).2
    have hP := zSm_P (zAg_Sm cy t hAg) hP
    have hD := zSm_D (zAg_Sm cy t hAg) hD
    refine lv_pop hX hB dX6_execute_85 rfl ?_
    refine lv_goto (tgt := 129) hX hB dX6_execute_86 (by decide) ?_
    refine lv_iconst (v := 1) hX hB dX6_execute_129 (by decide) ?_
    exact z_zret C hRT (zb01 (Or.inr rfl)) hP hD hS (Nat.le_of_ble_eq_true rfl) (Nat.le_of_ble_eq_true rfl) (by rw [if_neg c1]) (by rw [if_neg c1]; rfl) dX6_execute_130
  · refine lv_tableIn (off := 66) (tgt := 89) hX hB dX6_execute_23 (by decide) (by decide) rfl (by decide) ?_
    refine lv_aload_n hX hB dX6_execute_89 rfl (lv_at hl 0 rfl) ?_
    refine lv_iload_n hX hB dX6_execute_90 rfl (lv_at hl 2 rfl) ?_
    refine z_callVi (isC := [0, 1, 2, 3, 4, 5, 6, 7, 8, 9, 10, 11, 12]) (isR := []) (isO := [0, 1, 2, 3, 4, 5, 6, 7, 8, 9, 10, 11, 12]) (n_X6_playBumper (nI (a 3)) (fun j => nI (a (30 + j))) (fun j => nI (a (34 + j))) (nI (mU a)) (nI (a 8)) (nI (a 10)) (nI (a 11)) (fun j => nI (a (20 + j))) (nI (a 42 + a 43 + a 44 + a 45)) (fun j => nI (a (42 + j))) (zn v)) (q_X6_playBumper cy (t 0) (t 1) (t 2) (t 3) (t 4) (t 5) (t 6) (t 7) (t 8) (t 9) (t 10) (t 11) (t 12) (nI (a 2)) (nI (a 0)) (nI (a 1)) (nI (a 3)) (nI (a 4)) (nI (mU a)) (nI (a 6)) (nI (a 7)) (nI (a 9)) (nI (a 11)) (nI (a 12)) (fun j => nI (a (16 + j))) (fun j => nI (a (24 + j))) (nI (a 13)) (fun j => nI (a (46 + 3 * j))) (fun j => nI (a (46 + 3 * j + 1))) (fun j => nI (a (46 + 3 * j + 2))) (nI (a 14)) (nI (a 15))) (q_X6_playBumper cy (t 0) (t 1) (t 2) (t 3) (t 4) (t 5) (t 6) (t 7) (t 8) (t 9) (t 10) (t 11) (t 12) (nI (a 2)) (nI (a 0)) (nI (a 1)) (nI (a 3)) (nI (a 4)) (nI (mU a)) (nI (a 6)) (nI (a 7)) (nI (a 9)) (nI (a 11)) (nI (a 12)) (fun j => nI (a (16 + j))) (fun j => nI (a (24 + j))) (nI (a 13)) (fun j => nI (a (46 + 3 * j))) (fun j => nI (a (46 + 3 * j + 1))) (fun j => nI (a (46 + 3 * j + 2))) (nI (a 14)) (nI (a 15))) (fun o => o.1) (c_X6_playBumper l hE D cy (t 0) (t 1) (t 2) (t 3) (t 4) (t 5) (t 6) (t 7) (t 8) (t 9) (t 10) (t 11) (t 12) (nI (a 2)) (nI (a 0)) (nI (a 1)) (nI (a 3)) (nI (a 4)) (fun j => nI (a (30 + j))) (fun j => nI (a (34 + j))) (nI (mU a)) (nI (a 6)) (nI (a 7)) (nI (a 8)) (nI (a 9)) (nI (a 10)) (nI (a 11)) (nI (a 12)) (fun j => nI (a (16 + j))) (fun j => nI (a (20 + j))) (fun j => nI (a (24 + j))) (nI (a 13)) (fun j => nI (a (46 + 3 * j))) (fun j => nI (a (46 + 3 * j + 1))) (fun j => nI (a (46 + 3 * j + 2))) (nI (a 42 + a 43 + a 44 + a 45)) (nI (a 14)) (nI (a 15)) (fun j => nI (a (42 + j))) v (zn v) (k4 rfl).1 (Nat.le_of_lt_succ (k4 rfl).2) zp4) hE C zs_X6_181 ⟨Nat.le_of_ble_eq_true rfl, Nat.le_of_ble_eq_true rfl⟩ hP hD hS hA hE0 ⟨rfl, rfl, rfl, by decide, rfl, rfl, rfl⟩ 0 rfl rfl rfl rfl hl.1 (Nat.le_of_ble_eq_true rfl) rfl dX6_execute_91 ⟨Nat.le_of_ble_eq_true rfl, Nat.le_of_ble_eq_true rfl⟩ (fun o H locs eo hP hD hS => ?_)
    subst eo
    have hAg := (f_bump S hB0 (k2 (by omega)) (k4 rfl).2).2
    have hP := zSm_P (zAg_Sm cy t hAg) hP
    have hD := zSm_D (zAg_Sm cy t hAg) hD
    refine lv_pop hX hB dX6_execute_94 rfl ?_
    refine lv_goto (tgt := 129) hX hB dX6_execute_95 (by decide) ?_
    refine lv_iconst (v := 1) hX hB dX6_execute_129 (by decide) ?_
    exact z_zret C hRT (zb01 (Or.inr rfl)) hP hD hS (Nat.le_of_ble_eq_true rfl) (Nat.le_of_ble_eq_true rfl) (by rw [if_neg c1]) (by rw [if_neg c1]; rfl) dX6_execute_130
  · refine lv_tableIn (off := 75) (tgt := 98) hX hB dX6_execute_23 (by decide) (by decide) rfl (by decide) ?_
    refine lv_aload_n hX hB dX6_execute_98 rfl (lv_at hl 0 rfl) ?_
    refine lv_iload_n hX hB dX6_execute_99 rfl (lv_at hl 2 rfl) ?_
    refine z_callVi (isC := [0, 1, 2, 3, 4, 5, 6, 7, 8, 9, 10, 11, 12]) (isR := []) (isO := [0, 1, 2, 3, 4, 5, 6, 7, 8, 9, 10, 11, 12]) (n_X6_playTarget (nI (a 3)) (fun j => nI (a (30 + j))) (fun j => nI (a (34 + j))) (nI (mU a)) (nI (a 6)) (nI (a 7)) (nI (a 8)) (nI (a 10)) (nI (a 11)) (fun j => nI (a (24 + j))) (nI (a 42 + a 43 + a 44 + a 45)) (fun j => nI (a (42 + j))) (zn v)) (q_X6_playTarget cy (t 0) (t 1) (t 2) (t 3) (t 4) (t 5) (t 6) (t 7) (t 8) (t 9) (t 10) (t 11) (t 12) (nI (a 2)) (nI (a 0)) (nI (a 1)) (nI (a 3)) (nI (a 4)) (nI (mU a)) (nI (a 9)) (nI (a 11)) (nI (a 12)) (fun j => nI (a (16 + j))) (fun j => nI (a (20 + j))) (nI (a 13)) (fun j => nI (a (46 + 3 * j))) (fun j => nI (a (46 + 3 * j + 1))) (fun j => nI (a (46 + 3 * j + 2))) (nI (a 14)) (nI (a 15))) (q_X6_playTarget cy (t 0) (t 1) (t 2) (t 3) (t 4) (t 5) (t 6) (t 7) (t 8) (t 9) (t 10) (t 11) (t 12) (nI (a 2)) (nI (a 0)) (nI (a 1)) (nI (a 3)) (nI (a 4)) (nI (mU a)) (nI (a 9)) (nI (a 11)) (nI (a 12)) (fun j => nI (a (16 + j))) (fun j => nI (a (20 + j))) (nI (a 13)) (fun j => nI (a (46 + 3 * j))) (fun j => nI (a (46 + 3 * j + 1))) (fun j => nI (a (46 + 3 * j + 2))) (nI (a 14)) (nI (a 15))) (fun o => o.1) (c_X6_playTarget l hE D cy hO (t 0) (t 1) (t 2) (t 3) (t 4) (t 5) (t 6) (t 7) (t 8) (t 9) (t 10) (t 11) (t 12) (nI (a 2)) (nI (a 0)) (nI (a 1)) (nI (a 3)) (nI (a 4)) (fun j => nI (a (30 + j))) (fun j => nI (a (34 + j))) (nI (mU a)) (nI (a 6)) (nI (a 7)) (nI (a 8)) (nI (a 9)) (nI (a 10)) (nI (a 11)) (nI (a 12)) (fun j => nI (a (16 + j))) (fun j => nI (a (20 + j))) (fun j => nI (a (24 + j))) (nI (a 13)) (fun j => nI (a (46 + 3 * j))) (fun j => nI (a (46 + 3 * j + 1))) (fun j => nI (a (46 + 3 * j + 2))) (nI (a 42 + a 43 + a 44 + a 45)) (nI (a 14)) (nI (a 15)) (fun j => nI (a (42 + j))) v (zn v) (k5 rfl).1 (Nat.le_of_lt_succ (k5 rfl).2) zp4) hE C zs_X6_184 ⟨Nat.le_of_ble_eq_true rfl, Nat.le_of_ble_eq_true rfl⟩ hP hD hS hA hE0 ⟨rfl, rfl, rfl, by decide, rfl, rfl, rfl⟩ 0 rfl rfl rfl rfl hl.1 (Nat.le_of_ble_eq_true rfl) rfl dX6_execute_100 ⟨Nat.le_of_ble_eq_true rfl, Nat.le_of_ble_eq_true rfl⟩ (fun o H locs eo hP hD hS => ?_)
    subst eo
    have hAg := (f_targ S hB0 (k2 (by omega)) (k5 rfl).2).2
    have hP := zSm_P (zAg_Sm cy t hAg) hP
    have hD := zSm_D (zAg_Sm cy t hAg) hD
    refine lv_pop hX hB dX6_execute_103 rfl ?_
    refine lv_goto (tgt := 129) hX hB dX6_execute_104 (by decide) ?_
    refine lv_iconst (v := 1) hX hB dX6_execute_129 (by decide) ?_
    exact z_zret C hRT (zb01 (Or.inr rfl)) hP hD hS (Nat.le_of_ble_eq_true rfl) (Nat.le_of_ble_eq_true rfl) (by rw [if_neg c1]) (by rw [if_neg c1]; rfl) dX6_execute_130
  · refine lv_tableIn (off := 84) (tgt := 107) hX hB dX6_execute_23 (by decide) (by decide) rfl (by decide) ?_
    refine lv_aload_n hX hB dX6_execute_107 rfl (lv_at hl 0 rfl) ?_
    refine lv_iload_n hX hB dX6_execute_108 rfl (lv_at hl 2 rfl) ?_
    refine z_callVi (isC := [0, 1, 2, 3, 4, 5, 6, 7, 8, 9, 10, 11, 12]) (isR := []) (isO := [0, 1, 2, 3, 4, 5, 6, 7, 8, 9, 10, 11, 12]) (n_X6_shake (nI (a 8)) (nI (a 9)) (nI (a 11)) (nI (a 15)) v) (q_X6_shake cy (t 0) (t 1) (t 2) (t 3) (t 4) (t 5) (t 6) (t 7) (t 8) (t 9) (t 10) (t 11) (t 12) (nI (a 2)) (nI (a 0)) (nI (a 1)) (nI (a 3)) (nI (a 4)) (fun j => nI (a (30 + j))) (fun j => nI (a (34 + j))) (nI (mU a)) (nI (a 6)) (nI (a 7)) (nI (a 10)) (nI (a 12)) (fun j => nI (a (16 + j))) (fun j => nI (a (20 + j))) (fun j => nI (a (24 + j))) (nI (a 13)) (fun j => nI (a (46 + 3 * j))) (fun j => nI (a (46 + 3 * j + 1))) (fun j => nI (a (46 + 3 * j + 2))) (nI (a 42 + a 43 + a 44 + a 45)) (nI (a 14)) (fun j => nI (a (42 + j)))) (q_X6_shake cy (t 0) (t 1) (t 2) (t 3) (t 4) (t 5) (t 6) (t 7) (t 8) (t 9) (t 10) (t 11) (t 12) (nI (a 2)) (nI (a 0)) (nI (a 1)) (nI (a 3)) (nI (a 4)) (fun j => nI (a (30 + j))) (fun j => nI (a (34 + j))) (nI (mU a)) (nI (a 6)) (nI (a 7)) (nI (a 10)) (nI (a 12)) (fun j => nI (a (16 + j))) (fun j => nI (a (20 + j))) (fun j => nI (a (24 + j))) (nI (a 13)) (fun j => nI (a (46 + 3 * j))) (fun j => nI (a (46 + 3 * j + 1))) (fun j => nI (a (46 + 3 * j + 2))) (nI (a 42 + a 43 + a 44 + a 45)) (nI (a 14)) (fun j => nI (a (42 + j)))) (fun o => o.1) (c_X6_shake l hE D cy (t 0) (t 1) (t 2) (t 3) (t 4) (t 5) (t 6) (t 7) (t 8) (t 9) (t 10) (t 11) (t 12) (nI (a 2)) (nI (a 0)) (nI (a 1)) (nI (a 3)) (nI (a 4)) (fun j => nI (a (30 + j))) (fun j => nI (a (34 + j))) (nI (mU a)) (nI (a 6)) (nI (a 7)) (nI (a 8)) (nI (a 9)) (nI (a 10)) (nI (a 11)) (nI (a 12)) (fun j => nI (a (16 + j))) (fun j => nI (a (20 + j))) (fun j => nI (a (24 + j))) (nI (a 13)) (fun j => nI (a (46 + 3 * j))) (fun j => nI (a (46 + 3 * j + 1))) (fun j => nI (a (46 + 3 * j + 2))) (nI (a 42 + a 43 + a 44 + a 45)) (nI (a 14)) (nI (a 15)) (fun j => nI (a (42 + j))) v) hE C zs_X6_187 ⟨Nat.le_of_ble_eq_true rfl, Nat.le_of_ble_eq_true rfl⟩ hP hD hS hA hE0 ⟨rfl, rfl, rfl, by decide, rfl, rfl, rfl⟩ 0 rfl rfl rfl rfl hl.1 (Nat.le_of_ble_eq_true rfl) rfl dX6_execute_109 ⟨Nat.le_of_ble_eq_true rfl, Nat.le_of_ble_eq_true rfl⟩ (fun o H locs eo hP hD hS => ?_)
    subst eo
    have hAg := (by have := (f_nudge S hB0 (k2 (by omega)) (k6 rfl).2).2; rw [← (k6 rfl).1] at this; exact this)
    have hP := zSm_P (zAg_Sm cy t hAg) hP
    have hD := zSm_D (zAg_Sm cy t hAg) hD
    refine lv_pop hX hB dX6_execute_112 rfl ?_
    refine lv_goto (tgt := 129) hX hB dX6_execute_113 (by decide) ?_
    refine lv_iconst (v := 1) hX hB dX6_execute_129 (by decide) ?_
    exact z_zret C hRT (zb01 (Or.inr rfl)) hP hD hS (Nat.le_of_ble_eq_true rfl) (Nat.le_of_ble_eq_true rfl) (by rw [if_neg c1]) (by rw [if_neg c1]; rfl) dX6_execute_130
  · refine lv_tableIn (off := 93) (tgt := 116) hX hB dX6_execute_23 (by decide) (by decide) rfl (by decide) ?_
    refine lv_aload_n hX hB dX6_execute_116 rfl (lv_at hl 0 rfl) ?_
    refine z_callVi (isC := [0, 1, 2, 3, 4, 5, 6, 7, 8, 9, 10, 11, 12]) (isR := []) (isO := [0, 1, 2, 3, 4, 5, 6, 7, 8, 9, 10, 11, 12]) (n_X6_loseBall (nI (a 2)) (nI (a 0)) (nI (a 1)) (nI (a 3)) (nI (a 4)) (fun j => nI (a (30 + j))) (fun j => nI (a (34 + j))) (nI (mU a)) (nI (a 6)) (nI (a 7)) (nI (a 8)) (nI (a 9)) (nI (a 10)) (nI (a 11)) (nI (a 12)) (fun j => nI (a (16 + j))) (fun j => nI (a (20 + j))) (fun j => nI (a (24 + j))) (nI (a 13)) (fun j => nI (a (46 + 3 * j))) (fun j => nI (a (46 + 3 * j + 1))) (fun j => nI (a (46 + 3 * j + 2))) (nI (a 42 + a 43 + a 44 + a 45)) (nI (a 14)) (fun j => nI (a (42 + j)))) (q_X6_loseBall cy (t 0) (t 1) (t 2) (t 3) (t 4) (t 5) (t 6) (t 7) (t 8) (t 9) (t 10) (t 11) (t 12) (nI (a 2)) (nI (a 1)) (nI (a 15))) (q_X6_loseBall cy (t 0) (t 1) (t 2) (t 3) (t 4) (t 5) (t 6) (t 7) (t 8) (t 9) (t 10) (t 11) (t 12) (nI (a 2)) (nI (a 1)) (nI (a 15))) (fun o => o.1) (c_X6_loseBall l hE D cy hO (t 0) (t 1) (t 2) (t 3) (t 4) (t 5) (t 6) (t 7) (t 8) (t 9) (t 10) (t 11) (t 12) (nI (a 2)) (nI (a 0)) (nI (a 1)) (nI (a 3)) (nI (a 4)) (fun j => nI (a (30 + j))) (fun j => nI (a (34 + j))) (nI (mU a)) (nI (a 6)) (nI (a 7)) (nI (a 8)) (nI (a 9)) (nI (a 10)) (nI (a 11)) (nI (a 12)) (fun j => nI (a (16 + j))) (fun j => nI (a (20 + j))) (fun j => nI (a (24 + j))) (nI (a 13)) (fun j => nI (a (46 + 3 * j))) (fun j => nI (a (46 + 3 * j + 1))) (fun j => nI (a (46 + 3 * j + 2))) (nI (a 42 + a 43 + a 44 + a 45)) (nI (a 14)) (nI (a 15)) (fun j => nI (a (42 + j))) zp1 zp4 zr1) hE C zs_X6_189 ⟨Nat.le_of_ble_eq_true rfl, Nat.le_of_ble_eq_true rfl⟩ hP hD hS hA hE0 ⟨rfl, rfl, rfl, by decide, rfl, rfl, rfl⟩ 0 rfl rfl rfl rfl hl.1 (Nat.le_of_ble_eq_true rfl) rfl dX6_execute_117 ⟨Nat.le_of_ble_eq_true rfl, Nat.le_of_ble_eq_true rfl⟩ (fun o H locs eo hP hD hS => ?_)
    subst eo
    have hAg := (f_drain S hI hb (k2 (by omega))).2
    have hP := zSm_P (zAg_Sm cy t hAg) hP
    have hD := zSm_D (zAg_Sm cy t hAg) hD
    refine lv_pop hX hB dX6_execute_120 rfl ?_
    refine lv_goto (tgt := 129) hX hB dX6_execute_121 (by decide) ?_
    refine lv_iconst (v := 1) hX hB dX6_execute_129 (by decide) ?_
    exact z_zret C hRT (zb01 (Or.inr rfl)) hP hD hS (Nat.le_of_ble_eq_true rfl) (Nat.le_of_ble_eq_true rfl) (by rw [if_neg c1]) (by rw [if_neg c1]; rfl) dX6_execute_130
  · refine lv_tableOut (tgt := 124) hX hB dX6_execute_23 (Or.inl (by decide)) (by decide) ?_
    refine lv_aload_n hX hB dX6_execute_124 rfl (lv_at hl 0 rfl) ?_
    refine z_callVi (isC := [0, 1, 2, 3, 4, 5, 6, 7, 8, 9, 10, 11, 12]) (isR := []) (isO := [0, 1, 2, 3, 4, 5, 6, 7, 8, 9, 10, 11, 12]) (n_X6_breakOff (nI (a 3))) (q_X6_breakOff cy (t 0) (t 1) (t 2) (t 3) (t 4) (t 5) (t 6) (t 7) (t 8) (t 9) (t 10) (t 11) (t 12) (nI (a 2)) (nI (a 1)) (nI (a 3)) (nI (a 4)) (fun j => nI (a (30 + j))) (fun j => nI (a (34 + j))) (nI (mU a)) (nI (a 6)) (nI (a 7)) (nI (a 8)) (nI (a 9)) (nI (a 10)) (nI (a 11)) (nI (a 12)) (fun j => nI (a (16 + j))) (fun j => nI (a (20 + j))) (fun j => nI (a (24 + j))) (nI (a 13)) (fun j => nI (a (46 + 3 * j))) (fun j => nI (a (46 + 3 * j + 1))) (fun j => nI (a (46 + 3 * j + 2))) (nI (a 42 + a 43 + a 44 + a 45)) (nI (a 14)) (nI (a 15)) (fun j => nI (a (42 + j)))) (q_X6_breakOff cy (t 0) (t 1) (t 2) (t 3) (t 4) (t 5) (t 6) (t 7) (t 8) (t 9) (t 10) (t 11) (t 12) (nI (a 2)) (nI (a 1)) (nI (a 3)) (nI (a 4)) (fun j => nI (a (30 + j))) (fun j => nI (a (34 + j))) (nI (mU a)) (nI (a 6)) (nI (a 7)) (nI (a 8)) (nI (a 9)) (nI (a 10)) (nI (a 11)) (nI (a 12)) (fun j => nI (a (16 + j))) (fun j => nI (a (20 + j))) (fun j => nI (a (24 + j))) (nI (a 13)) (fun j => nI (a (46 + 3 * j))) (fun j => nI (a (46 + 3 * j + 1))) (fun j => nI (a (46 + 3 * j + 2))) (nI (a 42 + a 43 + a 44 + a 45)) (nI (a 14)) (nI (a 15)) (fun j => nI (a (42 + j)))) (fun o => o.1) (c_X6_breakOff l hE D cy (t 0) (t 1) (t 2) (t 3) (t 4) (t 5) (t 6) (t 7) (t 8) (t 9) (t 10) (t 11) (t 12) (nI (a 2)) (nI (a 0)) (nI (a 1)) (nI (a 3)) (nI (a 4)) (fun j => nI (a (30 + j))) (fun j => nI (a (34 + j))) (nI (mU a)) (nI (a 6)) (nI (a 7)) (nI (a 8)) (nI (a 9)) (nI (a 10)) (nI (a 11)) (nI (a 12)) (fun j => nI (a (16 + j))) (fun j => nI (a (20 + j))) (fun j => nI (a (24 + j))) (nI (a 13)) (fun j => nI (a (46 + 3 * j))) (fun j => nI (a (46 + 3 * j + 1))) (fun j => nI (a (46 + 3 * j + 2))) (nI (a 42 + a 43 + a 44 + a 45)) (nI (a 14)) (nI (a 15)) (fun j => nI (a (42 + j))) ) hE C zs_X6_192 ⟨Nat.le_of_ble_eq_true rfl, Nat.le_of_ble_eq_true rfl⟩ hP hD hS hA hE0 ⟨rfl, rfl, rfl, by decide, rfl, rfl, rfl⟩ 0 rfl rfl rfl rfl hl.1 (Nat.le_of_ble_eq_true rfl) rfl dX6_execute_125 ⟨Nat.le_of_ble_eq_true rfl, Nat.le_of_ble_eq_true rfl⟩ (fun o H locs eo hP hD hS => ?_)
    subst eo
    have hAg := (f_quit S).2
    have hP := zSm_P (zAg_Sm cy t hAg) hP
    have hD := zSm_D (zAg_Sm cy t hAg) hD
    refine lv_pop hX hB dX6_execute_128 rfl ?_
    refine lv_iconst (v := 1) hX hB dX6_execute_129 (by decide) ?_
    exact z_zret C hRT (zb01 (Or.inr rfl)) hP hD hS (Nat.le_of_ble_eq_true rfl) (Nat.le_of_ble_eq_true rfl) (by rw [if_neg c1]) (by rw [if_neg c1]; rfl) dX6_execute_130