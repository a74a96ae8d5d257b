set_option maxHeartbeats 4000000 in
set_option maxRecDepth 100000 in
theorem c_X9_meanScore (l : Launch) {E : zEn} (hE : zEok E) (D : zG) (cy : Nat → ClassId) (h0 h1 h2 h3 h4 h5 h6 h7 h8 h9 : Nat) (v1 v2 v3 v4 v5 v6 v7 v8 v9 v10 v11 : Int32) (a : Nat → Nat) (hq4 : a 2 ≤ 4) (sz : Nat) : Met l yX9_meanScore (zws yX9_meanScore cX9_meanScore 4 (some .double)) { frames := 1, cells := 0, slots := 0, locals := 21 } (zPre E D cy [.ref h0] ([(h0, .inr (11, [.ref h1, .ref h2, .ref h3, .ref h4, .ref h5, .int v1, .int v2, .int v3, .int v4, .int v5, .ref h6, .int v6, .ref h7, .ref h8, .ref h9, .int v7, .int v8, .int v9, .int v10, .int v11])), (h1, .inl (cy 0, 64, .inl (zF a)))]) sz) (zQd D [(h0, .inr (11, [.ref h1, .ref h2, .ref h3, .ref h4, .ref h5, .int (if nI (a 2) = 0 then 1 else 0), .int v2, .int v3, .int v4, .int v5, .ref h6, .int v6, .ref h7, .ref h8, .ref h9, .int v7, .int v8, .int v9, .int v10, .int v11])), (h1, .inl (cy 0, 64, .inl (zF a)))] (va_A ([(h0, .inr (11, [.ref h1, .ref h2, .ref h3, .ref h4, .ref h5, .int v1, .int v2, .int v3, .int v4, .int v5, .ref h6, .int v6, .ref h7, .ref h8, .ref h9, .int v7, .int v8, .int v9, .int v10, .int v11])), (h1, .inl (cy 0, 64, .inl (zF a)))]) sz) (if nI (a 2) = 0 then FP.dconst0 else FP.ddiv (FP.i2d (nI (zsum a (a 2)))) (FP.i2d (nI (a 2))))) 0 0 (va_A ([(h0, .inr (11, [.ref h1, .ref h2, .ref h3, .ref h4, .ref h5, .int v1, .int v2, .int v3, .int v4, .int v5, .ref h6, .int v6, .ref h7, .ref h8, .ref h9, .int v7, .int v8, .int v9, .int v10, .int v11])), (h1, .inl (cy 0, 64, .inl (zF a)))]) sz) := by
  refine z_of (Qc := fun A => zQd D [(h0, .inr (11, [.ref h1, .ref h2, .ref h3, .ref h4, .ref h5, .int (if nI (a 2) = 0 then 1 else 0), .int v2, .int v3, .int v4, .int v5, .ref h6, .int v6, .ref h7, .ref h8, .ref h9, .int v7, .int v8, .int v9, .int v10, .int v11])), (h1, .inl (cy 0, 64, .inl (zF a)))] A (if nI (a 2) = 0 then FP.dconst0 else FP.ddiv (FP.i2d (nI (zsum a (a 2)))) (FP.i2d (nI (a 2))))) (by decide +kernel) (Nat.le_of_ble_eq_true rfl) rfl ?_
  intro pG eN sT mI below meth cO A ls C hRT hnm hA hP hD hS hE0 hl
  have hX := C.x
  have hB := C.b
  have hz : nI (a 2) = 0 ↔ a 2 = 0 := by rw [lI0]; exact nI_eq (by omega) (by omega)
  have loop : ∀ (f k : Nat), k + f = a 2 → ∀ (H : Heap) (locs : List Loc), va_P D vwCl [(h0, .inr (11, [.ref h1, .ref h2, .ref h3, .ref h4, .ref h5, .int (if nI (a 2) = 0 then 1 else 0), .int v2, .int v3, .int v4, .int v5, .ref h6, .int v6, .ref h7, .ref h8, .ref h9, .int v7, .int v8, .int v9, .int v10, .int v11])), (h1, .inl (cy 0, 64, .inl (zF a)))] H → va_D A [(h0, .inr (11, [.ref h1, .ref h2, .ref h3, .ref h4, .ref h5, .int (if nI (a 2) = 0 then 1 else 0), .int v2, .int v3, .int v4, .int v5, .ref h6, .int v6, .ref h7, .ref h8, .ref h9, .int v7, .int v8, .int v9, .int v10, .int v11])), (h1, .inl (cy 0, 64, .inl (zF a)))] → va_S A sT.heap H locs → ∀ (ls : Array Slot), lv_has ls 4 [(3, .int (nI k)), (2, .int (nI (zsum a k))), (1, .int (nI (a 2))), (0, .ref h0)] → W pG l eN { frames := 1, cells := 0, slots := 0, locals := 21 } sT mI ([.ref h0] : List Value).toArray below meth cO H locs 0 0 (MQ below (zQd D [(h0, .inr (11, [.ref h1, .ref h2, .ref h3, .ref h4, .ref h5, .int (if nI (a 2) = 0 then 1 else 0), .int v2, .int v3, .int v4, .int v5, .ref h6, .int v6, .ref h7, .ref h8, .ref h9, .int v7, .int v8, .int v9, .int v10, .int v11])), (h1, .inl (cy 0, 64, .inl (zF a)))] A (if nI (a 2) = 0 then FP.dconst0 else FP.ddiv (FP.i2d (nI (zsum a (a 2)))) (FP.i2d (nI (a 2))))) ([.ref h0] : List Value).toArray sT 0 0 A) (F0 mI 24 ls []) := by
    intro f
    induction f with
    | zero =>
      intro k hk H locs hP hD hS ls hl
      have ek : k = a 2 := by omega
      subst ek
      refine lv_iload_n hX hB dX9_meanScore_24 rfl (lv_at hl 0 rfl) ?_
      refine lv_iload_n hX hB dX9_meanScore_25 rfl (lv_at hl 2 rfl) ?_
      refine lv_icmp_ge (tgt := 47) hX hB dX9_meanScore_26 (by decide) (fun _ => ?_) (fun c => absurd ((nI_leI (by omega) (by omega)).mpr (Nat.le_refl _)) c)
      refine lv_iload_n hX hB dX9_meanScore_47 rfl (lv_at hl 2 rfl) ?_
      refine lv_if_ne (tgt := 55) hX hB dX9_meanScore_48 (by decide) (fun c1 => ?_) (fun c1 => ?_)
      · refine lv_iload_n hX hB dX9_meanScore_55 rfl (lv_at hl 1 rfl) ?_
        refine lv_i2d hX hB dX9_meanScore_56 ?_
        refine lv_iload_n hX hB dX9_meanScore_57 rfl (lv_at hl 2 rfl) ?_
        refine lv_i2d hX hB dX9_meanScore_58 ?_
        refine lv_ddiv hX hB dX9_meanScore_59 (fp_mean _ (by have : ¬ a 2 = 0 := fun z => c1 (hz.mpr z); omega) hq4) ?_
        exact z_dret C hRT hP hD hS (Nat.le_of_ble_eq_true rfl) (Nat.le_of_ble_eq_true rfl) (by rw [if_neg c1]) rfl dX9_meanScore_60
      · refine lv_dconst0 hX hB dX9_meanScore_51 ?_
        refine lv_goto (tgt := 60) hX hB dX9_meanScore_52 (by decide) ?_
        exact z_dret C hRT hP hD hS (Nat.le_of_ble_eq_true rfl) (Nat.le_of_ble_eq_true rfl) (by rw [if_pos c1]) rfl dX9_meanScore_60
    | succ f ih =>
      intro k hk H locs hP hD hS ls hl
      refine lv_iload_n hX hB dX9_meanScore_24 rfl (lv_at hl 0 rfl) ?_
      refine lv_iload_n hX hB dX9_meanScore_25 rfl (lv_at hl 2 rfl) ?_
      refine lv_icmp_ge (tgt := 47) hX hB dX9_meanScore_26 (by decide) (fun c => absurd ((nI_leI (by omega) (by omega)).mp c) (by omega)) (fun _ => ?_)
      refine lv_iload_n hX hB dX9_meanScore_29 rfl (lv_at hl 1 rfl) ?_
      refine lv_aload_n hX hB dX9_meanScore_30 rfl (lv_at hl 3 rfl) ?_
      refine fg_X9_7 C hP 0 rfl rfl dX9_meanScore_31 ?_
      refine lv_bipush (v := 30) hX hB dX9_meanScore_34 (by decide) ?_
      refine lv_iload_n hX hB dX9_meanScore_36 rfl (lv_at hl 0 rfl) ?_
      refine lv_iadd hX hB dX9_meanScore_37 ?_
      refine z_iald C hP 1 rfl (k := 30 + k) (zi_add (zlit 30) (zi_i k)) (by omega) (by decide) rfl dX9_meanScore_38 ?_
      refine lv_iadd hX hB dX9_meanScore_39 ?_
      have es : nI (zsum a k) + zF a (30 + k) = nI (zsum a (k + 1)) := nI_add _ _
      rw [es]
      refine lv_istore_n (lv' := [(2, .int (nI (zsum a (k + 1)))), (3, .int (nI k)), (1, .int (nI (a 2))), (0, .ref h0)]) hX hB dX9_meanScore_40 rfl hl (by decide) rfl (fun ls hl => ?_)
      refine lv_iinc (v := nI (k + 1)) (lv' := [(3, .int (nI (k + 1))), (2, .int (nI (zsum a (k + 1)))), (1, .int (nI (a 2))), (0, .ref h0)]) hX hB dX9_meanScore_41 hl (k := 1) rfl (nI_1 k) (by decide) rfl (fun ls hl => ?_)
      refine lv_goto (tgt := 24) hX hB dX9_meanScore_44 (by decide) ?_
      exact ih (k + 1) (by omega) H locs hP hD hS ls hl
  refine lv_aload_n hX hB dX9_meanScore_0 rfl (lv_at hl 0 rfl) ?_
  refine fg_X9_7 C hP 0 rfl rfl dX9_meanScore_1 ?_
  refine lv_iconst (v := 2) hX hB dX9_meanScore_4 (by decide) ?_
  refine z_iald C hP 1 rfl (k := 2) (zlit 2) (by decide) (by decide) rfl dX9_meanScore_5 ?_
  refine lv_istore_n (lv' := [(1, .int (nI (a 2))), (0, .ref h0)]) hX hB dX9_meanScore_6 rfl hl (by decide) rfl (fun ls hl => ?_)
  refine lv_aload_n hX hB dX9_meanScore_7 rfl (lv_at hl 1 rfl) ?_
  refine lv_iload_n hX hB dX9_meanScore_8 rfl (lv_at hl 0 rfl) ?_
  have rest : ∀ (x : Int32), x = (if nI (a 2) = 0 then 1 else 0) → W pG l eN { frames := 1, cells := 0, slots := 0, locals := 21 } sT mI ([.ref h0] : List Value).toArray below meth cO sT.heap [] 0 0 (MQ below (zQd D [(h0, .inr (11, [.ref h1, .ref h2, .ref h3, .ref h4, .ref h5, .int (if nI (a 2) = 0 then 1 else 0), .int v2, .int v3, .int v4, .int v5, .ref h6, .int v6, .ref h7, .ref h8, .ref h9, .int v7, .int v8, .int v9, .int v10, .int v11])), (h1, .inl (cy 0, 64, .inl (zF a)))] A (if nI (a 2) = 0 then FP.dconst0 else FP.ddiv (FP.i2d (nI (zsum a (a 2)))) (FP.i2d (nI (a 2))))) ([.ref h0] : List Value).toArray sT 0 0 A) (F0 mI 17 ls [.int x, .ref h0]) := by
    intro x hx
    subst hx
    refine fp_X9_25 C hP hD hS 0 rfl rfl rfl (Nat.le_of_ble_eq_true rfl) (w' := [(h0, .inr (11, [.ref h1, .ref h2, .ref h3, .ref h4, .ref h5, .int (if nI (a 2) = 0 then 1 else 0), .int v2, .int v3, .int v4, .int v5, .ref h6, .int v6, .ref h7, .ref h8, .ref h9, .int v7, .int v8, .int v9, .int v10, .int v11])), (h1, .inl (cy 0, 64, .inl (zF a)))]) rfl dX9_meanScore_17 (fun H locs hP hD hS => ?_)
    refine lv_iconst (v := 0) hX hB dX9_meanScore_20 (by decide) ?_
    refine lv_istore_n (lv' := [(2, .int (nI (zsum a 0))), (1, .int (nI (a 2))), (0, .ref h0)]) hX hB dX9_meanScore_21 rfl hl (by decide) rfl (fun ls hl => ?_)
    refine lv_iconst (v := 0) hX hB dX9_meanScore_22 (by decide) ?_
    refine lv_istore_n (lv' := [(3, .int (nI 0)), (2, .int (nI (zsum a 0))), (1, .int (nI (a 2))), (0, .ref h0)]) hX hB dX9_meanScore_23 rfl hl (by decide) rfl (fun ls hl => ?_)
    exact loop (a 2) 0 (by omega) H locs hP hD hS ls hl
  refine lv_if_ne (tgt := 16) hX hB dX9_meanScore_9 (by decide) (fun c1 => ?_) (fun c1 => ?_)
  · refine lv_iconst (v := 0) hX hB dX9_meanScore_16 (by decide) ?_
    exact rest 0 (by rw [if_neg c1])
  · refine lv_iconst (v := 1) hX hB dX9_meanScore_12 (by decide) ?_
    refine lv_goto (tgt := 17) hX hB dX9_meanScore_13 (by decide) ?_
    exact rest 1 (by rw [if_pos c1])

set_option maxHeartbeats 4000000 in
set_option maxRecDepth 100000 in
theorem c_X9_tiltRate (l : Launch) {E : zEn} (hE : zEok E) (D : zG) (cy : Nat → ClassId) (h0 h1 h2 h3 h4 h5 h6 h7 h8 h9 : Nat) (v1 v2 v3 v4 v5 v6 v7 v8 v9 v10 v11 : Int32) (a : Nat → Nat) (hq4 : a 14 < 2 ^ 24) (sz : Nat) : Met l yX9_tiltRate (zws yX9_tiltRate cX9_tiltRate 1 (some .float)) { frames := 1, cells := 0, slots := 0, locals := 21 } (zPre E D cy [.ref h0] ([(h0, .inr (11, [.ref h1, .ref h2, .ref h3, .ref h4, .ref h5, .int v1, .int v2, .int v3, .int v4, .int v5, .ref h6, .int v6, .ref h7, .ref h8, .ref h9, .int v7, .int v8, .int v9, .int v10, .int v11])), (h1, .inl (cy 0, 64, .inl (zF a)))]) sz) (zQf D [(h0, .inr (11, [.ref h1, .ref h2, .ref h3, .ref h4, .ref h5, .int (if nI (a 14) = 0 then 1 else 0), .int v2, .int v3, .int v4, .int v5, .ref h6, .int v6, .ref h7, .ref h8, .ref h9, .int v7, .int v8, .int v9, .int v10, .int v11])), (h1, .inl (cy 0, 64, .inl (zF a)))] (va_A ([(h0, .inr (11, [.ref h1, .ref h2, .ref h3, .ref h4, .ref h5, .int v1, .int v2, .int v3, .int v4, .int v5, .ref h6, .int v6, .ref h7, .ref h8, .ref h9, .int v7, .int v8, .int v9, .int v10, .int v11])), (h1, .inl (cy 0, 64, .inl (zF a)))]) sz) (if nI (a 14) = 0 then FP.fconst0 else FP.fdiv (FP.i2f (nI (a 15))) (FP.i2f (nI (a 14))))) 0 0 (va_A ([(h0, .inr (11, [.ref h1, .ref h2, .ref h3, .ref h4, .ref h5, .int v1, .int v2, .int v3, .int v4, .int v5, .ref h6, .int v6, .ref h7, .ref h8, .ref h9, .int v7, .int v8, .int v9, .int v10, .int v11])), (h1, .inl (cy 0, 64, .inl (zF a)))]) sz) := by
  refine z_of (Qc := fun A => zQf D [(h0, .inr (11, [.ref h1, .ref h2, .ref h3, .ref h4, .ref h5, .int (if nI (a 14) = 0 then 1 else 0), .int v2, .int v3, .int v4, .int v5, .ref h6, .int v6, .ref h7, .ref h8, .ref h9, .int v7, .int v8, .int v9, .int v10, .int v11])), (h1, .inl (cy 0, 64, .inl (zF a)))] A (if nI (a 14) = 0 then FP.fconst0 else FP.fdiv (FP.i2f (nI (a 15))) (FP.i2f (nI (a 14))))) (by decide +kernel) (Nat.le_of_ble_eq_true rfl) rfl ?_
  intro pG eN sT mI below meth cO A ls C hRT hnm hA hP hD hS hE0 hl
  have hX := C.x
  have hB := C.b
  have hz : nI (a 14) = 0 ↔ a 14 = 0 := by rw [lI0]; exact nI_eq (by omega) (by omega)
  refine lv_aload_n hX hB dX9_tiltRate_0 rfl (lv_at hl 0 rfl) ?_
  refine lv_aload_n hX hB dX9_tiltRate_1 rfl (lv_at hl 0 rfl) ?_
  refine fg_X9_7 C hP 0 rfl rfl dX9_tiltRate_2 ?_
  refine lv_bipush (v := 14) hX hB dX9_tiltRate_5 (by decide) ?_
  refine z_iald C hP 1 rfl (k := 14) (zlit 14) (by decide) (by decide) rfl dX9_tiltRate_7 ?_
  refine lv_if_ne (tgt := 15) hX hB dX9_tiltRate_8 (by decide) (fun c1 => ?_) (fun c1 => ?_)
  · have c1' : ¬ nI (a 14) = 0 := c1
    refine lv_iconst (v := 0) hX hB dX9_tiltRate_15 (by decide) ?_
    refine fp_X9_25 C hP hD hS 0 rfl rfl rfl (Nat.le_of_ble_eq_true rfl) (w' := [(h0, .inr (11, [.ref h1, .ref h2, .ref h3, .ref h4, .ref h5, .int (if nI (a 14) = 0 then 1 else 0), .int v2, .int v3, .int v4, .int v5, .ref h6, .int v6, .ref h7, .ref h8, .ref h9, .int v7, .int v8, .int v9, .int v10, .int v11])), (h1, .inl (cy 0, 64, .inl (zF a)))]) (by rw [if_neg c1']; rfl) dX9_tiltRate_16 (fun H locs hP hD hS => ?_)
    refine lv_aload_n hX hB dX9_tiltRate_19 rfl (lv_at hl 0 rfl) ?_
    refine fg_X9_25 C hP 0 rfl rfl dX9_tiltRate_20 ?_
    refine lv_if_le (tgt := 30) hX hB dX9_tiltRate_23 (by decide) (fun _ => ?_) (fun c2 => absurd (by rw [if_neg c1']; decide) c2)
    refine lv_aload_n hX hB dX9_tiltRate_30 rfl (lv_at hl 0 rfl) ?_
    refine fg_X9_7 C hP 0 rfl rfl dX9_tiltRate_31 ?_
    refine lv_bipush (v := 15) hX hB dX9_tiltRate_34 (by decide) ?_
    refine z_iald C hP 1 rfl (k := 15) (zlit 15) (by decide) (by decide) rfl dX9_tiltRate_36 ?_
    refine lv_i2f hX hB dX9_tiltRate_37 ?_
    refine lv_aload_n hX hB dX9_tiltRate_38 rfl (lv_at hl 0 rfl) ?_
    refine fg_X9_7 C hP 0 rfl rfl dX9_tiltRate_39 ?_
    refine lv_bipush (v := 14) hX hB dX9_tiltRate_42 (by decide) ?_
    refine z_iald C hP 1 rfl (k := 14) (zlit 14) (by decide) (by decide) rfl dX9_tiltRate_44 ?_
    refine lv_i2f hX hB dX9_tiltRate_45 ?_
    refine lv_fdiv hX hB dX9_tiltRate_46 (fp_rate (by have : ¬ a 14 = 0 := fun z => c1 (hz.mpr z); omega) hq4) ?_
    exact z_fret C hRT hP hD hS (Nat.le_of_ble_eq_true rfl) (Nat.le_of_ble_eq_true rfl) (by rw [if_neg (show ¬ nI (a 14) = 0 from c1)]; rfl) rfl dX9_tiltRate_47
  · have c1' : nI (a 14) = 0 := c1
    refine lv_iconst (v := 1) hX hB dX9_tiltRate_11 (by decide) ?_
    refine lv_goto (tgt := 16) hX hB dX9_tiltRate_12 (by decide) ?_
    refine fp_X9_25 C hP hD hS 0 rfl rfl rfl (Nat.le_of_ble_eq_true rfl) (w' := [(h0, .inr (11, [.ref h1, .ref h2, .ref h3, .ref h4, .ref h5, .int (if nI (a 14) = 0 then 1 else 0), .int v2, .int v3, .int v4, .int v5, .ref h6, .int v6, .ref h7, .ref h8, .ref h9, .int v7, .int v8, .int v9, .int v10, .int v11])), (h1, .inl (cy 0, 64, .inl (zF a)))]) (by rw [if_pos c1']; rfl) dX9_tiltRate_16 (fun H locs hP hD hS => ?_)
    refine lv_aload_n hX hB dX9_tiltRate_19 rfl (lv_at hl 0 rfl) ?_
    refine fg_X9_25 C hP 0 rfl rfl dX9_tiltRate_20 ?_
    refine lv_if_le (tgt := 30) hX hB dX9_tiltRate_23 (by decide) (fun c2 => absurd c2 (by rw [if_pos c1']; decide)) (fun _ => ?_)
    refine lv_fconst0 hX hB dX9_tiltRate_26 ?_
    refine lv_goto (tgt := 47) hX hB dX9_tiltRate_27 (by decide) ?_
    exact z_fret C hRT hP hD hS (Nat.le_of_ble_eq_true rfl) (Nat.le_of_ble_eq_true rfl) (by rw [if_pos (show nI (a 14) = 0 from c1)]) rfl dX9_tiltRate_47
