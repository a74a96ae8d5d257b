theorem zdf_X1 : ∀ j, j < 11 → defaultValue (tyX1 j) = vp_V [.int 0, .null, .null, .null, .int 0, .int 0, .int 0, .int 0, .int 0, .int 0, .int 0] j := fun j hj => match j, hj with
  | 0, _ => rfl
  | 1, _ => rfl
  | 2, _ => rfl
  | 3, _ => rfl
  | 4, _ => rfl
  | 5, _ => rfl
  | 6, _ => rfl
  | 7, _ => rfl
  | 8, _ => rfl
  | 9, _ => rfl
  | 10, _ => rfl
  | k + 11, h => absurd h (by omega)
theorem zdf_X3 : ∀ j, j < 3 → defaultValue (tyX3 j) = vp_V [.null, .int 0, .int 0] j := fun j hj => match j, hj with
  | 0, _ => rfl
  | 1, _ => rfl
  | 2, _ => rfl
  | k + 3, h => absurd h (by omega)
theorem zdf_X4 : ∀ j, j < 4 → defaultValue (tyX4 j) = vp_V [.null, .null, .null, .int 0] j := fun j hj => match j, hj with
  | 0, _ => rfl
  | 1, _ => rfl
  | 2, _ => rfl
  | 3, _ => rfl
  | k + 4, h => absurd h (by omega)
theorem zdf_X5 : ∀ j, j < 6 → defaultValue (tyX5 j) = vp_V [.null, .int 0, .int 0, .null, .null, .int 0] j := fun j hj => match j, hj with
  | 0, _ => rfl
  | 1, _ => rfl
  | 2, _ => rfl
  | 3, _ => rfl
  | 4, _ => rfl
  | 5, _ => rfl
  | k + 6, h => absurd h (by omega)
theorem zdf_X6 : ∀ j, j < 10 → defaultValue (tyX6 j) = vp_V [.int 0, .null, .null, .int 0, .int 0, .int 0, .int 0, .null, .null, .null] j := fun j hj => match j, hj with
  | 0, _ => rfl
  | 1, _ => rfl
  | 2, _ => rfl
  | 3, _ => rfl
  | 4, _ => rfl
  | 5, _ => rfl
  | 6, _ => rfl
  | 7, _ => rfl
  | 8, _ => rfl
  | 9, _ => rfl
  | k + 10, h => absurd h (by omega)
theorem zdf_X7 : ∀ j, j < 4 → defaultValue (tyX7 j) = vp_V [.null, .int 0, .int 0, .int 0] j := fun j hj => match j, hj with
  | 0, _ => rfl
  | 1, _ => rfl
  | 2, _ => rfl
  | 3, _ => rfl
  | k + 4, h => absurd h (by omega)
theorem zdf_X8 : ∀ j, j < 11 → defaultValue (tyX8 j) = vp_V [.null, .null, .null, .int 0, .null, .null, .null, .int 0, .int 0, .int 0, .int 0] j := fun j hj => match j, hj with
  | 0, _ => rfl
  | 1, _ => rfl
  | 2, _ => rfl
  | 3, _ => rfl
  | 4, _ => rfl
  | 5, _ => rfl
  | 6, _ => rfl
  | 7, _ => rfl
  | 8, _ => rfl
  | 9, _ => rfl
  | 10, _ => rfl
  | k + 11, h => absurd h (by omega)
theorem zdf_X9 : ∀ j, j < 20 → defaultValue (tyX9 j) = vp_V [.null, .null, .null, .null, .null, .int 0, .int 0, .int 0, .int 0, .int 0, .null, .int 0, .null, .null, .null, .int 0, .int 0, .int 0, .int 0, .int 0] j := fun j hj => match j, hj with
  | 0, _ => rfl
  | 1, _ => rfl
  | 2, _ => rfl
  | 3, _ => rfl
  | 4, _ => rfl
  | 5, _ => rfl
  | 6, _ => rfl
  | 7, _ => rfl
  | 8, _ => rfl
  | 9, _ => rfl
  | 10, _ => rfl
  | 11, _ => rfl
  | 12, _ => rfl
  | 13, _ => rfl
  | 14, _ => rfl
  | 15, _ => rfl
  | 16, _ => rfl
  | 17, _ => rfl
  | 18, _ => rfl
  | 19, _ => rfl
  | k + 20, h => absurd h (by omega)
theorem zdf_J4 : ∀ j, j < 4 → defaultValue (tyJ4 j) = vp_V [.null, .int 0, .int 0, .int 0] j := fun j hj => match j, hj with
  | 0, _ => rfl
  | 1, _ => rfl
  | 2, _ => rfl
  | 3, _ => rfl
  | k + 4, h => absurd h (by omega)

def q_X9_init (cy : Nat → ClassId) (h0 : Nat) (a : Nat → Nat) : va_W := [(h0, .inr (11, [.ref ((a 0)), .ref ((a 1)), .ref ((a 2)), .ref ((a 3)), .ref ((a 4)), .int 0, .int 0, .int (-1), .int (-1), .int 0, .ref ((a 5)), .int 0, .ref ((a 6)), .ref ((a 7)), .ref ((a 8)), .int 0, .int 0, .int 0, .int 0, .int 0])), ((a 0), .inl (cy 0, 64, .inl (fun _ => 0))), ((a 1), .inl (cy 0, 64, .inl (fun _ => 0))), ((a 2), .inl (cy 0, 64, .inl (fun _ => 0))), ((a 3), .inl (cy 0, 64, .inl (fun _ => 0))), ((a 4), .inl (cy 0, 512, .inl (fun _ => 0))), ((a 5), .inl (cy 0, 120, .inl (fun _ => 0))), ((a 6), .inl (cy 0, 60, .inl (fun _ => 0))), ((a 7), .inl (cy 0, 32, .inl (fun _ => 0))), ((a 8), .inl (cy 0, 32, .inl (fun _ => 0)))]
set_option maxHeartbeats 8000000 in
set_option maxRecDepth 100000 in
theorem c_X9_init (l : Launch) {E : zEn} (hE : zEok E) (D : zG) (cy : Nat → ClassId) (h0 : Nat) (sz : Nat) : Met l yX9_init (zws yX9_init cX9_init 1 none) { frames := 1, cells := 9, slots := 1012, locals := 12 } (zPre E D cy [.ref h0] [(h0, .inr (11, [.null, .null, .null, .null, .null, .int 0, .int 0, .int 0, .int 0, .int 0, .null, .int 0, .null, .null, .null, .int 0, .int 0, .int 0, .int 0, .int 0]))] sz) (zQx D (q_X9_init cy h0) (va_A [(h0, .inr (11, [.null, .null, .null, .null, .null, .int 0, .int 0, .int 0, .int 0, .int 0, .null, .int 0, .null, .null, .null, .int 0, .int 0, .int 0, .int 0, .int 0]))] sz)) 9 1012 (va_A [(h0, .inr (11, [.null, .null, .null, .null, .null, .int 0, .int 0, .int 0, .int 0, .int 0, .null, .int 0, .null, .null, .null, .int 0, .int 0, .int 0, .int 0, .int 0]))] sz) := by
  refine z_of (Qc := fun A => zQx D (q_X9_init cy h0) A) (by decide +kernel) (Nat.le_of_ble_eq_true rfl) rfl ?_
  intro pG eN sT mI below meth cO A ls C hRT hnm hA hP hD hS hE0 hl
  have hX := C.x
  have hB := C.b
  refine lv_aload_n hX hB dX9_init_0 rfl (lv_at hl 0 rfl) ?_
  refine W.objInit hX hB C.o (C.ts _ zm106) (C.ts _ zm12) (C.ts _ zm13) rfl (by rw [C.2.2.1]; exact hl.1) rfl dX9_init_1 (Nat.le_of_ble_eq_true rfl) (Nat.le_of_ble_eq_true rfl) ?_
  refine W.eq (g2 := F0 mI 4 ls []) rfl ?_
  refine lv_aload_n hX hB dX9_init_4 rfl (lv_at hl 0 rfl) ?_
  refine lv_bipush (v := 64) hX hB dX9_init_5 (by decide) ?_
  refine z_newI C hP hD hS hA 64 (by decide) (by decide) (by decide) ⟨Nat.le_of_ble_eq_true rfl, Nat.le_of_ble_eq_true rfl⟩ dX9_init_7 (fun q_1 H hP hD hS => ?_)
  refine fpF_X9_7 C hnm hP hD hS 0 rfl rfl rfl (Nat.le_of_ble_eq_true rfl) (w' := [(h0, .inr (11, [.ref q_1, .null, .null, .null, .null, .int 0, .int 0, .int 0, .int 0, .int 0, .null, .int 0, .null, .null, .null, .int 0, .int 0, .int 0, .int 0, .int 0])), (q_1, .inl (cy 0, 64, .inl (fun _ => 0)))]) rfl dX9_init_9 (fun H locs hP hD hS => ?_)
  refine lv_aload_n hX hB dX9_init_12 rfl (lv_at hl 0 rfl) ?_
  refine lv_bipush (v := 64) hX hB dX9_init_13 (by decide) ?_
  refine z_newI C hP hD hS hA 64 (by decide) (by decide) (by decide) ⟨Nat.le_of_ble_eq_true rfl, Nat.le_of_ble_eq_true rfl⟩ dX9_init_15 (fun q_2 H hP hD hS => ?_)
  refine fpF_X9_13 C hnm hP hD hS 0 rfl rfl rfl (Nat.le_of_ble_eq_true rfl) (w' := [(h0, .inr (11, [.ref q_1, .ref q_2, .null, .null, .null, .int 0, .int 0, .int 0, .int 0, .int 0, .null, .int 0, .null, .null, .null, .int 0, .int 0, .int 0, .int 0, .int 0])), (q_1, .inl (cy 0, 64, .inl (fun _ => 0))), (q_2, .inl (cy 0, 64, .inl (fun _ => 0)))]) rfl dX9_init_17 (fun H locs hP hD hS => ?_)
  refine lv_aload_n hX hB dX9_init_20 rfl (lv_at hl 0 rfl) ?_
  refine lv_bipush (v := 64) hX hB dX9_init_21 (by decide) ?_
  refine z_newI C hP hD hS hA 64 (by decide) (by decide) (by decide) ⟨Nat.le_of_ble_eq_true rfl, Nat.le_of_ble_eq_true rfl⟩ dX9_init_23 (fun q_3 H hP hD hS => ?_)
  refine fpF_X9_16 C hnm hP hD hS 0 rfl rfl rfl (Nat.le_of_ble_eq_true rfl) (w' := [(h0, .inr (11, [.ref q_1, .ref q_2, .ref q_3, .null, .null, .int 0, .int 0, .int 0, .int 0, .int 0, .null, .int 0, .null, .null, .null, .int 0, .int 0, .int 0, .int 0, .int 0])), (q_1, .inl (cy 0, 64, .inl (fun _ => 0))), (q_2, .inl (cy 0, 64, .inl (fun _ => 0))), (q_3, .inl (cy 0, 64, .inl (fun _ => 0)))]) rfl dX9_init_25 (fun H locs hP hD hS => ?_)
  refine lv_aload_n hX hB dX9_init_28 rfl (lv_at hl 0 rfl) ?_
  refine lv_bipush (v := 64) hX hB dX9_init_29 (by decide) ?_
  refine z_newI C hP hD hS hA 64 (by decide) (by decide) (by decide) ⟨Nat.le_of_ble_eq_true rfl, Nat.le_of_ble_eq_true rfl⟩ dX9_init_31 (fun q_4 H hP hD hS => ?_)
  refine fpF_X9_19 C hnm hP hD hS 0 rfl rfl rfl (Nat.le_of_ble_eq_true rfl) (w' := [(h0, .inr (11, [.ref q_1, .ref q_2, .ref q_3, .ref q_4, .null, .int 0, .int 0, .int 0, .int 0, .int 0, .null, .int 0, .null, .null, .null, .int 0, .int 0, .int 0, .int 0, .int 0])), (q_1, .inl (cy 0, 64, .inl (fun _ => 0))), (q_2, .inl (cy 0, 64, .inl (fun _ => 0))), (q_3, .inl (cy 0, 64, .inl (fun _ => 0))), (q_4, .inl (cy 0, 64, .inl (fun _ => 0)))]) rfl dX9_init_33 (fun H locs hP hD hS => ?_)
  refine lv_aload_n hX hB dX9_init_36 rfl (lv_at hl 0 rfl) ?_
  refine lv_sipush (v := 512) hX hB dX9_init_37 (by decide) ?_
  refine z_newI C hP hD hS hA 512 (by decide) (by decide) (by decide) ⟨Nat.le_of_ble_eq_true rfl, Nat.le_of_ble_eq_true rfl⟩ dX9_init_40 (fun q_5 H hP hD hS => ?_)
  refine fpF_X9_22 C hnm hP hD hS 0 rfl rfl rfl (Nat.le_of_ble_eq_true rfl) (w' := [(h0, .inr (11, [.ref q_1, .ref q_2, .ref q_3, .ref q_4, .ref q_5, .int 0, .int 0, .int 0, .int 0, .int 0, .null, .int 0, .null, .null, .null, .int 0, .int 0, .int 0, .int 0, .int 0])), (q_1, .inl (cy 0, 64, .inl (fun _ => 0))), (q_2, .inl (cy 0, 64, .inl (fun _ => 0))), (q_3, .inl (cy 0, 64, .inl (fun _ => 0))), (q_4, .inl (cy 0, 64, .inl (fun _ => 0))), (q_5, .inl (cy 0, 512, .inl (fun _ => 0)))]) rfl dX9_init_42 (fun H locs hP hD hS => ?_)
  refine lv_aload_n hX hB dX9_init_45 rfl (lv_at hl 0 rfl) ?_
  refine lv_iconst (v := 0) hX hB dX9_init_46 (by decide) ?_
  refine fp_X9_25 C hP hD hS 0 rfl rfl rfl (Nat.le_of_ble_eq_true rfl) (w' := [(h0, .inr (11, [.ref q_1, .ref q_2, .ref q_3, .ref q_4, .ref q_5, .int 0, .int 0, .int 0, .int 0, .int 0, .null, .int 0, .null, .null, .null, .int 0, .int 0, .int 0, .int 0, .int 0])), (q_1, .inl (cy 0, 64, .inl (fun _ => 0))), (q_2, .inl (cy 0, 64, .inl (fun _ => 0))), (q_3, .inl (cy 0, 64, .inl (fun _ => 0))), (q_4, .inl (cy 0, 64, .inl (fun _ => 0))), (q_5, .inl (cy 0, 512, .inl (fun _ => 0)))]) rfl dX9_init_47 (fun H locs hP hD hS => ?_)
  refine lv_aload_n hX hB dX9_init_50 rfl (lv_at hl 0 rfl) ?_
  refine lv_iconst (v := 0) hX hB dX9_init_51 (by decide) ?_
  refine fp_X9_29 C hP hD hS 0 rfl rfl rfl (Nat.le_of_ble_eq_true rfl) (w' := [(h0, .inr (11, [.ref q_1, .ref q_2, .ref q_3, .ref q_4, .ref q_5, .int 0, .int 0, .int 0, .int 0, .int 0, .null, .int 0, .null, .null, .null, .int 0, .int 0, .int 0, .int 0, .int 0])), (q_1, .inl (cy 0, 64, .inl (fun _ => 0))), (q_2, .inl (cy 0, 64, .inl (fun _ => 0))), (q_3, .inl (cy 0, 64, .inl (fun _ => 0))), (q_4, .inl (cy 0, 64, .inl (fun _ => 0))), (q_5, .inl (cy 0, 512, .inl (fun _ => 0)))]) rfl dX9_init_52 (fun H locs hP hD hS => ?_)
  refine lv_aload_n hX hB dX9_init_55 rfl (lv_at hl 0 rfl) ?_
  refine lv_iconst (v := (-1)) hX hB dX9_init_56 (by decide) ?_
  refine fp_X9_32 C hP hD hS 0 rfl rfl rfl (Nat.le_of_ble_eq_true rfl) (w' := [(h0, .inr (11, [.ref q_1, .ref q_2, .ref q_3, .ref q_4, .ref q_5, .int 0, .int 0, .int (-1), .int 0, .int 0, .null, .int 0, .null, .null, .null, .int 0, .int 0, .int 0, .int 0, .int 0])), (q_1, .inl (cy 0, 64, .inl (fun _ => 0))), (q_2, .inl (cy 0, 64, .inl (fun _ => 0))), (q_3, .inl (cy 0, 64, .inl (fun _ => 0))), (q_4, .inl (cy 0, 64, .inl (fun _ => 0))), (q_5, .inl (cy 0, 512, .inl (fun _ => 0)))]) rfl dX9_init_57 (fun H locs hP hD hS => ?_)
  refine lv_aload_n hX hB dX9_init_60 rfl (lv_at hl 0 rfl) ?_
  refine lv_iconst (v := (-1)) hX hB dX9_init_61 (by decide) ?_
  refine fp_X9_35 C hP hD hS 0 rfl rfl rfl (Nat.le_of_ble_eq_true rfl) (w' := [(h0, .inr (11, [.ref q_1, .ref q_2, .ref q_3, .ref q_4, .ref q_5, .int 0, .int 0, .int (-1), .int (-1), .int 0, .null, .int 0, .null, .null, .null, .int 0, .int 0, .int 0, .int 0, .int 0])), (q_1, .inl (cy 0, 64, .inl (fun _ => 0))), (q_2, .inl (cy 0, 64, .inl (fun _ => 0))), (q_3, .inl (cy 0, 64, .inl (fun _ => 0))), (q_4, .inl (cy 0, 64, .inl (fun _ => 0))), (q_5, .inl (cy 0, 512, .inl (fun _ => 0)))]) rfl dX9_init_62 (fun H locs hP hD hS => ?_)
  refine lv_aload_n hX hB dX9_init_65 rfl (lv_at hl 0 rfl) ?_
  refine lv_iconst (v := 0) hX hB dX9_init_66 (by decide) ?_
  refine fp_X9_38 C hP hD hS 0 rfl (zb01 (Or.inl rfl)) (zfitb (Or.inl rfl)) (Nat.le_of_ble_eq_true rfl) (w' := [(h0, .inr (11, [.ref q_1, .ref q_2, .ref q_3, .ref q_4, .ref q_5, .int 0, .int 0, .int (-1), .int (-1), .int 0, .null, .int 0, .null, .null, .null, .int 0, .int 0, .int 0, .int 0, .int 0])), (q_1, .inl (cy 0, 64, .inl (fun _ => 0))), (q_2, .inl (cy 0, 64, .inl (fun _ => 0))), (q_3, .inl (cy 0, 64, .inl (fun _ => 0))), (q_4, .inl (cy 0, 64, .inl (fun _ => 0))), (q_5, .inl (cy 0, 512, .inl (fun _ => 0)))]) rfl dX9_init_67 (fun H locs hP hD hS => ?_)
  refine lv_aload_n hX hB dX9_init_70 rfl (lv_at hl 0 rfl) ?_
  refine lv_bipush (v := 120) hX hB dX9_init_71 (by decide) ?_
  refine z_newI C hP hD hS hA 120 (by decide) (by decide) (by decide) ⟨Nat.le_of_ble_eq_true rfl, Nat.le_of_ble_eq_true rfl⟩ dX9_init_73 (fun q_6 H hP hD hS => ?_)
  refine fpF_X9_42 C hnm hP hD hS 0 rfl rfl rfl (Nat.le_of_ble_eq_true rfl) (w' := [(h0, .inr (11, [.ref q_1, .ref q_2, .ref q_3, .ref q_4, .ref q_5, .int 0, .int 0, .int (-1), .int (-1), .int 0, .ref q_6, .int 0, .null, .null, .null, .int 0, .int 0, .int 0, .int 0, .int 0])), (q_1, .inl (cy 0, 64, .inl (fun _ => 0))), (q_2, .inl (cy 0, 64, .inl (fun _ => 0))), (q_3, .inl (cy 0, 64, .inl (fun _ => 0))), (q_4, .inl (cy 0, 64, .inl (fun _ => 0))), (q_5, .inl (cy 0, 512, .inl (fun _ => 0))), (q_6, .inl (cy 0, 120, .inl (fun _ => 0)))]) rfl dX9_init_75 (fun H locs hP hD hS => ?_)
  refine lv_aload_n hX hB dX9_init_78 rfl (lv_at hl 0 rfl) ?_
  refine lv_iconst (v := 0) hX hB dX9_init_79 (by decide) ?_
  refine fp_X9_45 C hP hD hS 0 rfl rfl rfl (Nat.le_of_ble_eq_true rfl) (w' := [(h0, .inr (11, [.ref q_1, .ref q_2, .ref q_3, .ref q_4, .ref q_5, .int 0, .int 0, .int (-1), .int (-1), .int 0, .ref q_6, .int 0, .null, .null, .null, .int 0, .int 0, .int 0, .int 0, .int 0])), (q_1, .inl (cy 0, 64, .inl (fun _ => 0))), (q_2, .inl (cy 0, 64, .inl (fun _ => 0))), (q_3, .inl (cy 0, 64, .inl (fun _ => 0))), (q_4, .inl (cy 0, 64, .inl (fun _ => 0))), (q_5, .inl (cy 0, 512, .inl (fun _ => 0))), (q_6, .inl (cy 0, 120, .inl (fun _ => 0)))]) rfl dX9_init_80 (fun H locs hP hD hS => ?_)
  refine lv_aload_n hX hB dX9_init_83 rfl (lv_at hl 0 rfl) ?_
  refine lv_bipush (v := 60) hX hB dX9_init_84 (by decide) ?_
  refine z_newI C hP hD hS hA 60 (by decide) (by decide) (by decide) ⟨Nat.le_of_ble_eq_true rfl, Nat.le_of_ble_eq_true rfl⟩ dX9_init_86 (fun q_7 H hP hD hS => ?_)
  refine fpF_X9_48 C hnm hP hD hS 0 rfl rfl rfl (Nat.le_of_ble_eq_true rfl) (w' := [(h0, .inr (11, [.ref q_1, .ref q_2, .ref q_3, .ref q_4, .ref q_5, .int 0, .int 0, .int (-1), .int (-1), .int 0, .ref q_6, .int 0, .ref q_7, .null, .null, .int 0, .int 0, .int 0, .int 0, .int 0])), (q_1, .inl (cy 0, 64, .inl (fun _ => 0))), (q_2, .inl (cy 0, 64, .inl (fun _ => 0))), (q_3, .inl (cy 0, 64, .inl (fun _ => 0))), (q_4, .inl (cy 0, 64, .inl (fun _ => 0))), (q_5, .inl (cy 0, 512, .inl (fun _ => 0))), (q_6, .inl (cy 0, 120, .inl (fun _ => 0))), (q_7, .inl (cy 0, 60, .inl (fun _ => 0)))]) rfl dX9_init_88 (fun H locs hP hD hS => ?_)
  refine lv_aload_n hX hB dX9_init_91 rfl (lv_at hl 0 rfl) ?_
  refine lv_bipush (v := 32) hX hB dX9_init_92 (by decide) ?_
  refine z_newI C hP hD hS hA 32 (by decide) (by decide) (by decide) ⟨Nat.le_of_ble_eq_true rfl, Nat.le_of_ble_eq_true rfl⟩ dX9_init_94 (fun q_8 H hP hD hS => ?_)
  refine fpF_X9_51 C hnm hP hD hS 0 rfl rfl rfl (Nat.le_of_ble_eq_true rfl) (w' := [(h0, .inr (11, [.ref q_1, .ref q_2, .ref q_3, .ref q_4, .ref q_5, .int 0, .int 0, .int (-1), .int (-1), .int 0, .ref q_6, .int 0, .ref q_7, .ref q_8, .null, .int 0, .int 0, .int 0, .int 0, .int 0])), (q_1, .inl (cy 0, 64, .inl (fun _ => 0))), (q_2, .inl (cy 0, 64, .inl (fun _ => 0))), (q_3, .inl (cy 0, 64, .inl (fun _ => 0))), (q_4, .inl (cy 0, 64, .inl (fun _ => 0))), (q_5, .inl (cy 0, 512, .inl (fun _ => 0))), (q_6, .inl (cy 0, 120, .inl (fun _ => 0))), (q_7, .inl (cy 0, 60, .inl (fun _ => 0))), (q_8, .inl (cy 0, 32, .inl (fun _ => 0)))]) rfl dX9_init_96 (fun H locs hP hD hS => ?_)
  refine lv_aload_n hX hB dX9_init_99 rfl (lv_at hl 0 rfl) ?_
  refine lv_bipush (v := 32) hX hB dX9_init_100 (by decide) ?_
  refine z_newI C hP hD hS hA 32 (by decide) (by decide) (by decide) ⟨Nat.le_of_ble_eq_true rfl, Nat.le_of_ble_eq_true rfl⟩ dX9_init_102 (fun q_9 H hP hD hS => ?_)
  refine fpF_X9_54 C hnm hP hD hS 0 rfl rfl rfl (Nat.le_of_ble_eq_true rfl) (w' := [(h0, .inr (11, [.ref q_1, .ref q_2, .ref q_3, .ref q_4, .ref q_5, .int 0, .int 0, .int (-1), .int (-1), .int 0, .ref q_6, .int 0, .ref q_7, .ref q_8, .ref q_9, .int 0, .int 0, .int 0, .int 0, .int 0])), (q_1, .inl (cy 0, 64, .inl (fun _ => 0))), (q_2, .inl (cy 0, 64, .inl (fun _ => 0))), (q_3, .inl (cy 0, 64, .inl (fun _ => 0))), (q_4, .inl (cy 0, 64, .inl (fun _ => 0))), (q_5, .inl (cy 0, 512, .inl (fun _ => 0))), (q_6, .inl (cy 0, 120, .inl (fun _ => 0))), (q_7, .inl (cy 0, 60, .inl (fun _ => 0))), (q_8, .inl (cy 0, 32, .inl (fun _ => 0))), (q_9, .inl (cy 0, 32, .inl (fun _ => 0)))]) rfl dX9_init_104 (fun H locs hP hD hS => ?_)
  refine lv_aload_n hX hB dX9_init_107 rfl (lv_at hl 0 rfl) ?_
  refine lv_iconst (v := 0) hX hB dX9_init_108 (by decide) ?_
  refine fp_X9_57 C hP hD hS 0 rfl rfl rfl (Nat.le_of_ble_eq_true rfl) (w' := [(h0, .inr (11, [.ref q_1, .ref q_2, .ref q_3, .ref q_4, .ref q_5, .int 0, .int 0, .int (-1), .int (-1), .int 0, .ref q_6, .int 0, .ref q_7, .ref q_8, .ref q_9, .int 0, .int 0, .int 0, .int 0, .int 0])), (q_1, .inl (cy 0, 64, .inl (fun _ => 0))), (q_2, .inl (cy 0, 64, .inl (fun _ => 0))), (q_3, .inl (cy 0, 64, .inl (fun _ => 0))), (q_4, .inl (cy 0, 64, .inl (fun _ => 0))), (q_5, .inl (cy 0, 512, .inl (fun _ => 0))), (q_6, .inl (cy 0, 120, .inl (fun _ => 0))), (q_7, .inl (cy 0, 60, .inl (fun _ => 0))), (q_8, .inl (cy 0, 32, .inl (fun _ => 0))), (q_9, .inl (cy 0, 32, .inl (fun _ => 0)))]) rfl dX9_init_109 (fun H locs hP hD hS => ?_)
  refine lv_aload_n hX hB dX9_init_112 rfl (lv_at hl 0 rfl) ?_
  refine lv_iconst (v := 0) hX hB dX9_init_113 (by decide) ?_
  refine fp_X9_60 C hP hD hS 0 rfl rfl rfl (Nat.le_of_ble_eq_true rfl) (w' := [(h0, .inr (11, [.ref q_1, .ref q_2, .ref q_3, .ref q_4, .ref q_5, .int 0, .int 0, .int (-1), .int (-1), .int 0, .ref q_6, .int 0, .ref q_7, .ref q_8, .ref q_9, .int 0, .int 0, .int 0, .int 0, .int 0])), (q_1, .inl (cy 0, 64, .inl (fun _ => 0))), (q_2, .inl (cy 0, 64, .inl (fun _ => 0))), (q_3, .inl (cy 0, 64, .inl (fun _ => 0))), (q_4, .inl (cy 0, 64, .inl (fun _ => 0))), (q_5, .inl (cy 0, 512, .inl (fun _ => 0))), (q_6, .inl (cy 0, 120, .inl (fun _ => 0))), (q_7, .inl (cy 0, 60, .inl (fun _ => 0))), (q_8, .inl (cy 0, 32, .inl (fun _ => 0))), (q_9, .inl (cy 0, 32, .inl (fun _ => 0)))]) rfl dX9_init_114 (fun H locs hP hD hS => ?_)
  refine lv_aload_n hX hB dX9_init_117 rfl (lv_at hl 0 rfl) ?_
  refine lv_iconst (v := 0) hX hB dX9_init_118 (by decide) ?_
  refine fp_X9_63 C hP hD hS 0 rfl rfl rfl (Nat.le_of_ble_eq_true rfl) (w' := [(h0, .inr (11, [.ref q_1, .ref q_2, .ref q_3, .ref q_4, .ref q_5, .int 0, .int 0, .int (-1), .int (-1), .int 0, .ref q_6, .int 0, .ref q_7, .ref q_8, .ref q_9, .int 0, .int 0, .int 0, .int 0, .int 0])), (q_1, .inl (cy 0, 64, .inl (fun _ => 0))), (q_2, .inl (cy 0, 64, .inl (fun _ => 0))), (q_3, .inl (cy 0, 64, .inl (fun _ => 0))), (q_4, .inl (cy 0, 64, .inl (fun _ => 0))), (q_5, .inl (cy 0, 512, .inl (fun _ => 0))), (q_6, .inl (cy 0, 120, .inl (fun _ => 0))), (q_7, .inl (cy 0, 60, .inl (fun _ => 0))), (q_8, .inl (cy 0, 32, .inl (fun _ => 0))), (q_9, .inl (cy 0, 32, .inl (fun _ => 0)))]) rfl dX9_init_119 (fun H locs hP hD hS => ?_)
  refine lv_aload_n hX hB dX9_init_122 rfl (lv_at hl 0 rfl) ?_
  refine lv_iconst (v := 0) hX hB dX9_init_123 (by decide) ?_
  refine fp_X9_66 C hP hD hS 0 rfl rfl rfl (Nat.le_of_ble_eq_true rfl) (w' := [(h0, .inr (11, [.ref q_1, .ref q_2, .ref q_3, .ref q_4, .ref q_5, .int 0, .int 0, .int (-1), .int (-1), .int 0, .ref q_6, .int 0, .ref q_7, .ref q_8, .ref q_9, .int 0, .int 0, .int 0, .int 0, .int 0])), (q_1, .inl (cy 0, 64, .inl (fun _ => 0))), (q_2, .inl (cy 0, 64, .inl (fun _ => 0))), (q_3, .inl (cy 0, 64, .inl (fun _ => 0))), (q_4, .inl (cy 0, 64, .inl (fun _ => 0))), (q_5, .inl (cy 0, 512, .inl (fun _ => 0))), (q_6, .inl (cy 0, 120, .inl (fun _ => 0))), (q_7, .inl (cy 0, 60, .inl (fun _ => 0))), (q_8, .inl (cy 0, 32, .inl (fun _ => 0))), (q_9, .inl (cy 0, 32, .inl (fun _ => 0)))]) rfl dX9_init_124 (fun H locs hP hD hS => ?_)
  refine lv_aload_n hX hB dX9_init_127 rfl (lv_at hl 0 rfl) ?_
  refine lv_iconst (v := 0) hX hB dX9_init_128 (by decide) ?_
  refine fp_X9_69 C hP hD hS 0 rfl (zb01 (Or.inl rfl)) (zfitb (Or.inl rfl)) (Nat.le_of_ble_eq_true rfl) (w' := [(h0, .inr (11, [.ref q_1, .ref q_2, .ref q_3, .ref q_4, .ref q_5, .int 0, .int 0, .int (-1), .int (-1), .int 0, .ref q_6, .int 0, .ref q_7, .ref q_8, .ref q_9, .int 0, .int 0, .int 0, .int 0, .int 0])), (q_1, .inl (cy 0, 64, .inl (fun _ => 0))), (q_2, .inl (cy 0, 64, .inl (fun _ => 0))), (q_3, .inl (cy 0, 64, .inl (fun _ => 0))), (q_4, .inl (cy 0, 64, .inl (fun _ => 0))), (q_5, .inl (cy 0, 512, .inl (fun _ => 0))), (q_6, .inl (cy 0, 120, .inl (fun _ => 0))), (q_7, .inl (cy 0, 60, .inl (fun _ => 0))), (q_8, .inl (cy 0, 32, .inl (fun _ => 0))), (q_9, .inl (cy 0, 32, .inl (fun _ => 0)))]) rfl dX9_init_129 (fun H locs hP hD hS => ?_)
  exact z_vretx (zfa [q_1, q_2, q_3, q_4, q_5, q_6, q_7, q_8, q_9]) (w' := q_X9_init cy h0) C hRT hP hD hS (Nat.le_of_ble_eq_true rfl) (Nat.le_of_ble_eq_true rfl) rfl dX9_init_132
