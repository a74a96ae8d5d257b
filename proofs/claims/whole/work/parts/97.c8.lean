def q_X5_init (cy : Nat → ClassId) (h0 : Nat) (a : Nat → Nat) : va_W := [(h0, .inr (7, [.ref ((a 0)), .int 0, .int 0, .ref ((a 1)), .ref ((a 2)), .int 0])), ((a 0), .inl (cy 3, 60, .inl (fun _ => 0))), ((a 1), .inl (cy 7, 60, .inr (.inr (.inr (.inr (fun _ => none)))))), ((a 2), .inl (cy 0, 60, .inl (fun _ => 0)))]
set_option maxHeartbeats 8000000 in
set_option maxRecDepth 100000 in
theorem c_X5_init (l : Launch) {E : zEn} (hE : zEok E) (D : zG) (cy : Nat → ClassId) (hO : zOut E) (h0 : Nat) (sz : Nat) : Met l yX5_init (zws yX5_init cX5_init 1 none) { frames := 1, cells := 3, slots := 180, locals := 12 } (zPre E D cy [.ref h0] [(h0, .inr (7, [.null, .int 0, .int 0, .null, .null, .int 0]))] sz) (zQx D (q_X5_init cy h0) (va_A [(h0, .inr (7, [.null, .int 0, .int 0, .null, .null, .int 0]))] sz)) 3 180 (va_A [(h0, .inr (7, [.null, .int 0, .int 0, .null, .null, .int 0]))] sz) := by
  refine z_of (Qc := fun A => zQx D (q_X5_init cy h0) A) (by decide +kernel) (Nat.le_of_ble_eq_true rfl) rfl ?_
  intro pG eN sT mI below meth cO A ls C hRT hnm hA hP hD hS hE0 hl
  have hX := C.x
  have hB := C.b
  refine lv_aload_n hX hB dX5_init_0 rfl (lv_at hl 0 rfl) ?_
  refine W.objInit hX hB C.o (C.ts _ zm97) (C.ts _ zm12) (C.ts _ zm13) rfl (by rw [C.2.2.1]; exact hl.1) rfl dX5_init_1 (Nat.le_of_ble_eq_true rfl) (Nat.le_of_ble_eq_true rfl) ?_
  refine W.eq (g2 := F0 mI 4 ls []) rfl ?_
  refine lv_aload_n hX hB dX5_init_4 rfl (lv_at hl 0 rfl) ?_
  refine lv_bipush (v := 60) hX hB dX5_init_5 (by decide) ?_
  refine z_newC C hP hD hS hA 60 (by decide) (by decide) (by decide) ⟨Nat.le_of_ble_eq_true rfl, Nat.le_of_ble_eq_true rfl⟩ dX5_init_7 (fun q_1 H hP hD hS => ?_)
  refine fpF_X5_9 C hnm hP hD hS 0 rfl rfl rfl (Nat.le_of_ble_eq_true rfl) (w' := [(h0, .inr (7, [.ref q_1, .int 0, .int 0, .null, .null, .int 0])), (q_1, .inl (cy 3, 60, .inl (fun _ => 0)))]) rfl dX5_init_9 (fun H locs hP hD hS => ?_)
  refine lv_aload_n hX hB dX5_init_12 rfl (lv_at hl 0 rfl) ?_
  refine lv_bipush (v := 60) hX hB dX5_init_13 (by decide) ?_
  refine z_newQ C "PinballScorer$Command" 7 (fun _ => zcy_M C) hP hD hS hA zm100 (hO _ _ _ hE0).aoM 60 (by decide) (by decide) (by decide) ⟨Nat.le_of_ble_eq_true rfl, Nat.le_of_ble_eq_true rfl⟩ dX5_init_15 (fun q_2 H hP hD hS => ?_)
  refine fpF_X5_17 C hnm hP hD hS 0 rfl rfl rfl (Nat.le_of_ble_eq_true rfl) (w' := [(h0, .inr (7, [.ref q_1, .int 0, .int 0, .ref q_2, .null, .int 0])), (q_1, .inl (cy 3, 60, .inl (fun _ => 0))), (q_2, .inl (cy 7, 60, .inr (.inr (.inr (.inr (fun _ => none))))))]) rfl dX5_init_18 (fun H locs hP hD hS => ?_)
  refine lv_aload_n hX hB dX5_init_21 rfl (lv_at hl 0 rfl) ?_
  refine lv_bipush (v := 60) hX hB dX5_init_22 (by decide) ?_
  refine z_newI C hP hD hS hA 60 (by decide) (by decide) (by decide) ⟨Nat.le_of_ble_eq_true rfl, Nat.le_of_ble_eq_true rfl⟩ dX5_init_24 (fun q_3 H hP hD hS => ?_)
  refine fpF_X5_21 C hnm hP hD hS 0 rfl rfl rfl (Nat.le_of_ble_eq_true rfl) (w' := [(h0, .inr (7, [.ref q_1, .int 0, .int 0, .ref q_2, .ref q_3, .int 0])), (q_1, .inl (cy 3, 60, .inl (fun _ => 0))), (q_2, .inl (cy 7, 60, .inr (.inr (.inr (.inr (fun _ => none)))))), (q_3, .inl (cy 0, 60, .inl (fun _ => 0)))]) rfl dX5_init_26 (fun H locs hP hD hS => ?_)
  exact z_vretx (zfa [q_1, q_2, q_3]) (w' := q_X5_init cy h0) C hRT hP hD hS (Nat.le_of_ble_eq_true rfl) (Nat.le_of_ble_eq_true rfl) rfl dX5_init_29
