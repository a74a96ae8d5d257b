/-! what a table allows a command of a script -/
def zAl (a : Nat → Nat) (i : Nat) (v : Int32) : Int32 :=
  if i = 0 then n_X6_canAdmit (nI (a 2)) (nI (a 0))
  else if i = 1 then (if nI (a 0) = 0 then (if nI (a 2) ≤ 0 then 0 else 1) else 0)
  else if i = 2 then (if nI (a 0) = 0 then 0 else if n_X8_isIndex v 4 = 0 then 0 else 1)
  else if i = 3 then (if nI (a 0) = 0 then 0 else if n_X8_isIndex v 3 = 0 then 0 else 1)
  else if i = 4 then (if nI (a 0) = 0 then 0 else if n_X8_isIndex v 5 = 0 then 0 else 1)
  else if i = 5 then (if nI (a 0) = 0 then 0 else if n_X8_isForce v = 0 then 0 else 1)
  else nI (a 0)
theorem zAl_1 (a : Nat → Nat) (v : Int32) : zAl a 1 v = if nI (a 0) = 0 then (if nI (a 2) ≤ 0 then 0 else 1) else 0 := rfl
theorem zAl_2 (a : Nat → Nat) (v : Int32) : zAl a 2 v = if nI (a 0) = 0 then 0 else if n_X8_isIndex v 4 = 0 then 0 else 1 := rfl
theorem zAl_3 (a : Nat → Nat) (v : Int32) : zAl a 3 v = if nI (a 0) = 0 then 0 else if n_X8_isIndex v 3 = 0 then 0 else 1 := rfl
theorem zAl_4 (a : Nat → Nat) (v : Int32) : zAl a 4 v = if nI (a 0) = 0 then 0 else if n_X8_isIndex v 5 = 0 then 0 else 1 := rfl
theorem zAl_5 (a : Nat → Nat) (v : Int32) : zAl a 5 v = if nI (a 0) = 0 then 0 else if n_X8_isForce v = 0 then 0 else 1 := rfl
theorem canAdmit_01 (x y : Int32) : n_X6_canAdmit x y = 0 ∨ n_X6_canAdmit x y = 1 := by
  unfold n_X6_canAdmit
  repeat' split
  all_goals simp
theorem zi01 {n : Nat} (h : n ≤ 1) : nI n = 0 ∨ nI n = 1 := by
  obtain rfl | rfl : n = 0 ∨ n = 1 := by omega
  · exact Or.inl rfl
  · exact Or.inr rfl
set_option maxHeartbeats 4000000 in
set_option maxRecDepth 100000 in
theorem c_X6_allows (l : Launch) {E : zEn} (hE : zEok E) (D : zG) (cy : Nat → ClassId) (hO : zOut E) {ad adK adV : Nat → Nat} (hOC : zOutC E ad adK adV) (t : Nat → Nat) (a : Nat → Nat) (i : Nat) (hi : i < 8) (h0 : a 0 ≤ 1) (v : Int32) (sz : Nat) : Met l yX6_allows (zws yX6_allows cX6_allows 3 (some .boolean)) { frames := 1, cells := 0, slots := 0, locals := 21 } (zPre E D cy [.ref (t 0), .ref (ad i), .int v] (zTab cy t a) sz) (zQi D (zTab cy t a) (va_A (zTab cy t a) sz) (zAl a i v)) 0 0 (va_A (zTab cy t a) sz) := by
  refine z_of (Qc := fun A => zQi D (zTab cy t a) A (zAl a i v)) (by decide +kernel) (Nat.le_of_ble_eq_true rfl) rfl ?_
  intro pG eN sT mI below meth cO A ls C hRT hnm hA hP hD hS hE0 hl
  have hX := C.x
  have hB := C.b
  obtain ⟨_, ⟨tS, hZ, hTS⟩, _, _, _⟩ := hOC _ _ _ hE0
  refine va_gets hX hB hZ hS C.o (C.ts _ zm1401) (fun _ h => h) dX6_allows_0 ?_
  refine lv_aload_n hX hB dX6_allows_3 rfl (lv_at hl 1 rfl) ?_
  refine z_ord hOC hE C hP hD hS hA hE0 hi ⟨Nat.le_of_ble_eq_true rfl, Nat.le_of_ble_eq_true rfl⟩ hl.1 (Nat.le_of_ble_eq_true rfl) dX6_allows_4 ⟨Nat.le_of_ble_eq_true rfl, Nat.le_of_ble_eq_true rfl⟩ (fun H locs hP hD hS => ?_)
  refine va_ti hX hB hTS hS (i := nI i) (zi_in (k := i) (zi_i i) hi (by decide)) (v := .int (if i < 7 then nI (i + 1) else 0)) (by rw [zi_cl (zi_i i) hi (by decide)]) dX6_allows_7 ?_
  obtain rfl | rfl | rfl | rfl | rfl | rfl | rfl | rfl : i = 0 ∨ i = 1 ∨ i = 2 ∨ i = 3 ∨ i = 4 ∨ i = 5 ∨ i = 6 ∨ i = 7 := by omega

  · refine lv_tableIn (off := 40) (tgt := 48) hX hB dX6_allows_8 (by decide) (by decide) rfl (by decide) ?_
    refine lv_aload_n hX hB dX6_allows_48 rfl (lv_at hl 0 rfl) ?_
    refine z_callVi (isC := [0, 1, 2, 3, 4, 5, 6, 7, 8, 9, 10, 11, 12]) (isR := []) (isO := [0, 1, 2, 3, 4, 5, 6, 7, 8, 9, 10, 11, 12]) (n_X6_canAdmit (nI (a 2)) (nI (a 0))) (q_X6_canAdmit cy (t 0) (t 1) (t 2) (t 3) (t 4) (t 5) (t 6) (t 7) (t 8) (t 9) (t 10) (t 11) (t 12) (nI (a 2)) (nI (a 0)) (nI (a 1)) (nI (a 3)) (nI (a 4)) (fun j => nI (a (30 + j))) (fun j => nI (a (34 + j))) (nI (mU a)) (nI (a 6)) (nI (a 7)) (nI (a 8)) (nI (a 9)) (nI (a 10)) (nI (a 11)) (nI (a 12)) (fun j => nI (a (16 + j))) (fun j => nI (a (20 + j))) (fun j => nI (a (24 + j))) (nI (a 13)) (fun j => nI (a (46 + 3 * j))) (fun j => nI (a (46 + 3 * j + 1))) (fun j => nI (a (46 + 3 * j + 2))) (nI (a 42 + a 43 + a 44 + a 45)) (nI (a 14)) (nI (a 15)) (fun j => nI (a (42 + j)))) (fun _ => zTab cy t a) (fun o => o) (c_X6_canAdmit l hE D cy (t 0) (t 1) (t 2) (t 3) (t 4) (t 5) (t 6) (t 7) (t 8) (t 9) (t 10) (t 11) (t 12) (nI (a 2)) (nI (a 0)) (nI (a 1)) (nI (a 3)) (nI (a 4)) (fun j => nI (a (30 + j))) (fun j => nI (a (34 + j))) (nI (mU a)) (nI (a 6)) (nI (a 7)) (nI (a 8)) (nI (a 9)) (nI (a 10)) (nI (a 11)) (nI (a 12)) (fun j => nI (a (16 + j))) (fun j => nI (a (20 + j))) (fun j => nI (a (24 + j))) (nI (a 13)) (fun j => nI (a (46 + 3 * j))) (fun j => nI (a (46 + 3 * j + 1))) (fun j => nI (a (46 + 3 * j + 2))) (nI (a 42 + a 43 + a 44 + a 45)) (nI (a 14)) (nI (a 15)) (fun j => nI (a (42 + j)))) hE C zs_X6_195 ⟨Nat.le_of_ble_eq_true rfl, Nat.le_of_ble_eq_true rfl⟩ hP hD hS hA hE0 ⟨rfl, rfl, rfl, by decide, rfl, rfl, rfl⟩ 0 rfl rfl rfl rfl hl.1 (Nat.le_of_ble_eq_true rfl) rfl dX6_allows_49 ⟨Nat.le_of_ble_eq_true rfl, Nat.le_of_ble_eq_true rfl⟩ (fun o H locs eo hP hD hS => ?_)
    exact z_zret C hRT (by rw [eo]; exact zb01 (canAdmit_01 _ _)) hP hD hS (Nat.le_of_ble_eq_true rfl) (Nat.le_of_ble_eq_true rfl) eo rfl dX6_allows_52
  · refine lv_tableIn (off := 45) (tgt := 53) hX hB dX6_allows_8 (by decide) (by decide) rfl (by decide) ?_
    refine lv_aload_n hX hB dX6_allows_53 rfl (lv_at hl 0 rfl) ?_
    refine fg_X6_49 C hP 0 rfl rfl dX6_allows_54 ?_
    refine lv_if_ne (tgt := 71) hX hB dX6_allows_57 (by decide) (fun c1 => ?_) (fun c1 => ?_)
    · refine lv_iconst (v := 0) hX hB dX6_allows_71 (by decide) ?_
      exact z_zret C hRT (zb01 (Or.inl rfl)) hP hD hS (Nat.le_of_ble_eq_true rfl) (Nat.le_of_ble_eq_true rfl) (by rw [zAl_1, if_neg c1]) rfl dX6_allows_72
    · refine lv_aload_n hX hB dX6_allows_60 rfl (lv_at hl 0 rfl) ?_
      refine fg_X6_39 C hP 0 rfl rfl dX6_allows_61 ?_
      refine lv_if_le (tgt := 71) hX hB dX6_allows_64 (by decide) (fun c2 => ?_) (fun c2 => ?_)
      · refine lv_iconst (v := 0) hX hB dX6_allows_71 (by decide) ?_
        exact z_zret C hRT (zb01 (Or.inl rfl)) hP hD hS (Nat.le_of_ble_eq_true rfl) (Nat.le_of_ble_eq_true rfl) (by rw [zAl_1, if_pos c1, if_pos c2]) rfl dX6_allows_72
      · refine lv_iconst (v := 1) hX hB dX6_allows_67 (by decide) ?_
        refine lv_goto (tgt := 72) hX hB dX6_allows_68 (by decide) ?_
        exact z_zret C hRT (zb01 (Or.inr rfl)) hP hD hS (Nat.le_of_ble_eq_true rfl) (Nat.le_of_ble_eq_true rfl) (by rw [zAl_1, if_pos c1, if_neg c2]) rfl dX6_allows_72
  · refine lv_tableIn (off := 65) (tgt := 73) hX hB dX6_allows_8 (by decide) (by decide) rfl (by decide) ?_
    refine lv_aload_n hX hB dX6_allows_73 rfl (lv_at hl 0 rfl) ?_
    refine fg_X6_49 C hP 0 rfl rfl dX6_allows_74 ?_
    refine lv_if_eq (tgt := 92) hX hB dX6_allows_77 (by decide) (fun c1 => ?_) (fun c1 => ?_)
    · refine lv_iconst (v := 0) hX hB dX6_allows_92 (by decide) ?_
      exact z_zret C hRT (zb01 (Or.inl rfl)) hP hD hS (Nat.le_of_ble_eq_true rfl) (Nat.le_of_ble_eq_true rfl) (by rw [zAl_2, if_pos c1]) rfl dX6_allows_93
    · refine lv_iload_n hX hB dX6_allows_80 rfl (lv_at hl 2 rfl) ?_
      refine lv_iconst (v := 4) hX hB dX6_allows_81 (by decide) ?_
      refine z_callSNi (isC := []) (isR := [0, 1, 2, 3, 4, 5, 6, 7, 8, 9, 10, 11, 12]) (isO := [0, 1, 2, 3, 4, 5, 6, 7, 8, 9, 10, 11, 12]) (n_X8_isIndex v 4) (q_X8_isIndex) (fun _ => zTab cy t a) (fun o => o) (c_X8_isIndex l hE D cy v 4) hE C zs_X6_198 ((hO _ _ _ hE0).nX6_198) ⟨Nat.le_of_ble_eq_true rfl, Nat.le_of_ble_eq_true rfl⟩ hP hD hS hA hE0 ⟨rfl, rfl, rfl, by decide, rfl, rfl, rfl⟩ rfl hl.1 (Nat.le_of_ble_eq_true rfl) rfl dX6_allows_82 ⟨Nat.le_of_ble_eq_true rfl, Nat.le_of_ble_eq_true rfl⟩ (fun o H locs eo hP hD hS => ?_)
      refine lv_if_eq (tgt := 92) hX hB dX6_allows_85 (by decide) (fun c2 => ?_) (fun c2 => ?_)
      · refine lv_iconst (v := 0) hX hB dX6_allows_92 (by decide) ?_
        exact z_zret C hRT (zb01 (Or.inl rfl)) hP hD hS (Nat.le_of_ble_eq_true rfl) (Nat.le_of_ble_eq_true rfl) (by rw [zAl_2, if_neg c1, if_pos (eo.symm.trans c2)]) rfl dX6_allows_93
      · refine lv_iconst (v := 1) hX hB dX6_allows_88 (by decide) ?_
        refine lv_goto (tgt := 93) hX hB dX6_allows_89 (by decide) ?_
        exact z_zret C hRT (zb01 (Or.inr rfl)) hP hD hS (Nat.le_of_ble_eq_true rfl) (Nat.le_of_ble_eq_true rfl) (by rw [zAl_2, if_neg c1, if_neg (fun z => c2 (eo.trans z))]) rfl dX6_allows_93
  · refine lv_tableIn (off := 86) (tgt := 94) hX hB dX6_allows_8 (by decide) (by decide) rfl (by decide) ?_
    refine lv_aload_n hX hB dX6_allows_94 rfl (lv_at hl 0 rfl) ?_
    refine fg_X6_49 C hP 0 rfl rfl dX6_allows_95 ?_
    refine lv_if_eq (tgt := 113) hX hB dX6_allows_98 (by decide) (fun c1 => ?_) (fun c1 => ?_)
    · refine lv_iconst (v := 0) hX hB dX6_allows_113 (by decide) ?_
      exact z_zret C hRT (zb01 (Or.inl rfl)) hP hD hS (Nat.le_of_ble_eq_true rfl) (Nat.le_of_ble_eq_true rfl) (by rw [zAl_3, if_pos c1]) rfl dX6_allows_114
    · refine lv_iload_n hX hB dX6_allows_101 rfl (lv_at hl 2 rfl) ?_
      refine lv_iconst (v := 3) hX hB dX6_allows_102 (by decide) ?_
      refine z_callSNi (isC := []) (isR := [0, 1, 2, 3, 4, 5, 6, 7, 8, 9, 10, 11, 12]) (isO := [0, 1, 2, 3, 4, 5, 6, 7, 8, 9, 10, 11, 12]) (n_X8_isIndex v 3) (q_X8_isIndex) (fun _ => zTab cy t a) (fun o => o) (c_X8_isIndex l hE D cy v 3) hE C zs_X6_198 ((hO _ _ _ hE0).nX6_198) ⟨Nat.le_of_ble_eq_true rfl, Nat.le_of_ble_eq_true rfl⟩ hP hD hS hA hE0 ⟨rfl, rfl, rfl, by decide, rfl, rfl, rfl⟩ rfl hl.1 (Nat.le_of_ble_eq_true rfl) rfl dX6_allows_103 ⟨Nat.le_of_ble_eq_true rfl, Nat.le_of_ble_eq_true rfl⟩ (fun o H locs eo hP hD hS => ?_)
      refine lv_if_eq (tgt := 113) hX hB dX6_allows_106 (by decide) (fun c2 => ?_) (fun c2 => ?_)
      · refine lv_iconst (v := 0) hX hB dX6_allows_113 (by decide) ?_
        exact z_zret C hRT (zb01 (Or.inl rfl)) hP hD hS (Nat.le_of_ble_eq_true rfl) (Nat.le_of_ble_eq_true rfl) (by rw [zAl_3, if_neg c1, if_pos (eo.symm.trans c2)]) rfl dX6_allows_114
      · refine lv_iconst (v := 1) hX hB dX6_allows_109 (by decide) ?_
        refine lv_goto (tgt := 114) hX hB dX6_allows_110 (by decide) ?_
        exact z_zret C hRT (zb01 (Or.inr rfl)) hP hD hS (Nat.le_of_ble_eq_true rfl) (Nat.le_of_ble_eq_true rfl) (by rw [zAl_3, if_neg c1, if_neg (fun z => c2 (eo.trans z))]) rfl dX6_allows_114
  · refine lv_tableIn (off := 107) (tgt := 115) hX hB dX6_allows_8 (by decide) (by decide) rfl (by decide) ?_
    refine lv_aload_n hX hB dX6_allows_115 rfl (lv_at hl 0 rfl) ?_
    refine fg_X6_49 C hP 0 rfl rfl dX6_allows_116 ?_
    refine lv_if_eq (tgt := 134) hX hB dX6_allows_119 (by decide) (fun c1 => ?_) (fun c1 => ?_)
    · refine lv_iconst (v := 0) hX hB dX6_allows_134 (by decide) ?_
      exact z_zret C hRT (zb01 (Or.inl rfl)) hP hD hS (Nat.le_of_ble_eq_true rfl) (Nat.le_of_ble_eq_true rfl) (by rw [zAl_4, if_pos c1]) rfl dX6_allows_135
    · refine lv_iload_n hX hB dX6_allows_122 rfl (lv_at hl 2 rfl) ?_
      refine lv_iconst (v := 5) hX hB dX6_allows_123 (by decide) ?_
      refine z_callSNi (isC := []) (isR := [0, 1, 2, 3, 4, 5, 6, 7, 8, 9, 10, 11, 12]) (isO := [0, 1, 2, 3, 4, 5, 6, 7, 8, 9, 10, 11, 12]) (n_X8_isIndex v 5) (q_X8_isIndex) (fun _ => zTab cy t a) (fun o => o) (c_X8_isIndex l hE D cy v 5) hE C zs_X6_198 ((hO _ _ _ hE0).nX6_198) ⟨Nat.le_of_ble_eq_true rfl, Nat.le_of_ble_eq_true rfl⟩ hP hD hS hA hE0 ⟨rfl, rfl, rfl, by decide, rfl, rfl, rfl⟩ rfl hl.1 (Nat.le_of_ble_eq_true rfl) rfl dX6_allows_124 ⟨Nat.le_of_ble_eq_true rfl, Nat.le_of_ble_eq_true rfl⟩ (fun o H locs eo hP hD hS => ?_)
      refine lv_if_eq (tgt := 134) hX hB dX6_allows_127 (by decide) (fun c2 => ?_) (fun c2 => ?_)
      · refine lv_iconst (v := 0) hX hB dX6_allows_134 (by decide) ?_
        exact z_zret C hRT (zb01 (Or.inl rfl)) hP hD hS (Nat.le_of_ble_eq_true rfl) (Nat.le_of_ble_eq_true rfl) (by rw [zAl_4, if_neg c1, if_pos (eo.symm.trans c2)]) rfl dX6_allows_135
      · refine lv_iconst (v := 1) hX hB dX6_allows_130 (by decide) ?_
        refine lv_goto (tgt := 135) hX hB dX6_allows_131 (by decide) ?_
        exact z_zret C hRT (zb01 (Or.inr rfl)) hP hD hS (Nat.le_of_ble_eq_true rfl) (Nat.le_of_ble_eq_true rfl) (by rw [zAl_4, if_neg c1, if_neg (fun z => c2 (eo.trans z))]) rfl dX6_allows_135
  · refine lv_tableIn (off := 128) (tgt := 136) hX hB dX6_allows_8 (by decide) (by decide) rfl (by decide) ?_
    refine lv_aload_n hX hB dX6_allows_136 rfl (lv_at hl 0 rfl) ?_
    refine fg_X6_49 C hP 0 rfl rfl dX6_allows_137 ?_
    refine lv_if_eq (tgt := 154) hX hB dX6_allows_140 (by decide) (fun c1 => ?_) (fun c1 => ?_)
    · refine lv_iconst (v := 0) hX hB dX6_allows_154 (by decide) ?_
      exact z_zret C hRT (zb01 (Or.inl rfl)) hP hD hS (Nat.le_of_ble_eq_true rfl) (Nat.le_of_ble_eq_true rfl) (by rw [zAl_5, if_pos c1]) rfl dX6_allows_155
    · refine lv_iload_n hX hB dX6_allows_143 rfl (lv_at hl 2 rfl) ?_
      refine z_callSNi (isC := []) (isR := [0, 1, 2, 3, 4, 5, 6, 7, 8, 9, 10, 11, 12]) (isO := [0, 1, 2, 3, 4, 5, 6, 7, 8, 9, 10, 11, 12]) (n_X8_isForce v) (q_X8_isForce) (fun _ => zTab cy t a) (fun o => o) (c_X8_isForce l hE D cy v) hE C zs_X6_201 ((hO _ _ _ hE0).nX6_201) ⟨Nat.le_of_ble_eq_true rfl, Nat.le_of_ble_eq_true rfl⟩ hP hD hS hA hE0 ⟨rfl, rfl, rfl, by decide, rfl, rfl, rfl⟩ rfl hl.1 (Nat.le_of_ble_eq_true rfl) rfl dX6_allows_144 ⟨Nat.le_of_ble_eq_true rfl, Nat.le_of_ble_eq_true rfl⟩ (fun o H locs eo hP hD hS => ?_)
      refine lv_if_eq (tgt := 154) hX hB dX6_allows_147 (by decide) (fun c2 => ?_) (fun c2 => ?_)
      · refine lv_iconst (v := 0) hX hB dX6_allows_154 (by decide) ?_
        exact z_zret C hRT (zb01 (Or.inl rfl)) hP hD hS (Nat.le_of_ble_eq_true rfl) (Nat.le_of_ble_eq_true rfl) (by rw [zAl_5, if_neg c1, if_pos (eo.symm.trans c2)]) rfl dX6_allows_155
      · refine lv_iconst (v := 1) hX hB dX6_allows_150 (by decide) ?_
        refine lv_goto (tgt := 155) hX hB dX6_allows_151 (by decide) ?_
        exact z_zret C hRT (zb01 (Or.inr rfl)) hP hD hS (Nat.le_of_ble_eq_true rfl) (Nat.le_of_ble_eq_true rfl) (by rw [zAl_5, if_neg c1, if_neg (fun z => c2 (eo.trans z))]) rfl dX6_allows_155
  · refine lv_tableOut (tgt := 156) hX hB dX6_allows_8 (Or.inr (by decide)) (by decide) ?_
    refine lv_aload_n hX hB dX6_allows_156 rfl (lv_at hl 0 rfl) ?_
    refine fg_X6_49 C hP 0 rfl rfl dX6_allows_157 ?_
    exact z_zret C hRT (zb01 (zi01 h0)) hP hD hS (Nat.le_of_ble_eq_true rfl) (Nat.le_of_ble_eq_true rfl) rfl rfl dX6_allows_160
  · refine lv_tableOut (tgt := 156) hX hB dX6_allows_8 (Or.inl (by decide)) (by decide) ?_
    refine lv_aload_n hX hB dX6_allows_156 rfl (lv_at hl 0 rfl) ?_
    refine fg_X6_49 C hP 0 rfl rfl dX6_allows_157 ?_
    exact z_zret C hRT (zb01 (zi01 h0)) hP hD hS (Nat.le_of_ble_eq_true rfl) (Nat.le_of_ble_eq_true rfl) rfl rfl dX6_allows_160