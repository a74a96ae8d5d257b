def zSBi (cy : Nat → ClassId) (b0 : Nat) (a : Nat → Nat) : va_W := [(b0, .inr (1, [.ref (a 0), .int 0, .int 0, .int 0])), (a 0, .inl (cy 2, 16, .inl (fun _ => 0)))]
set_option maxHeartbeats 4000000 in
set_option maxRecDepth 100000 in
theorem c_J5_init (l : Launch) {E : zEn} (hE : zEok E) (D : zG) (cy : Nat → ClassId) (hOB : zOutB E) (b0 : Nat) (sz : Nat) : Met l yJ5_init_d00df (zws yJ5_init_d00df cJ5_init_d00df 2 none) { frames := 1, cells := 1, slots := 16, locals := 12 } (zPre E D cy [.ref b0, .int 16] ([(b0, .inr (1, [.null, .int 0, .int 0, .int 0]))]) sz) (zQx D (zSBi cy b0) (va_A ([(b0, .inr (1, [.null, .int 0, .int 0, .int 0]))]) sz)) 1 16 (va_A ([(b0, .inr (1, [.null, .int 0, .int 0, .int 0]))]) sz) := by
  refine z_of (Qc := fun A => zQx D (zSBi cy b0) A) (by decide +kernel) (Nat.le_of_ble_eq_true rfl) rfl ?_
  intro pG eN sT mI below meth cO A ls C hRT hnm hA hP hD hS hE0 hl
  have hX := C.x
  have hB := C.b
  refine lv_aload_n hX hB dJ5_init_d00df_0 rfl (lv_at hl 0 rfl) ?_
  refine W.objInit hX hB C.o (C.ts _ zm82) (C.ts _ zm12) (C.ts _ zm13) rfl (by rw [C.2.2.1]; exact hl.1) rfl dJ5_init_d00df_1 (Nat.le_of_ble_eq_true rfl) (Nat.le_of_ble_eq_true rfl) ?_
  refine W.eq (g2 := F0 mI 4 ls []) rfl ?_
  refine va_gets hX hB ((hOB _ _ _ hE0).1) hS C.o (C.ts _ zm83) (fun _ h => h) dJ5_init_d00df_4 ?_
  refine lv_if_eq (tgt := 25) hX hB dJ5_init_d00df_7 (by decide) (fun c => absurd c (by decide)) (fun _ => ?_)
  refine lv_aload_n hX hB dJ5_init_d00df_10 rfl (lv_at hl 0 rfl) ?_
  refine lv_iload_n hX hB dJ5_init_d00df_11 rfl (lv_at hl 1 rfl) ?_
  refine z_newB C hP hD hS hA 16 (by decide) (by decide) (by decide) ⟨Nat.le_of_ble_eq_true rfl, Nat.le_of_ble_eq_true rfl⟩ dJ5_init_d00df_12 (fun q H hP hD hS => ?_)
  refine fp_J5_15 C hP hD hS 0 rfl rfl rfl (Nat.le_of_ble_eq_true rfl) (w' := [(b0, .inr (1, [.ref q, .int 0, .int 0, .int 0])), (q, .inl (cy 2, 16, .inl (fun _ => 0)))]) rfl dJ5_init_d00df_14 (fun H locs hP hD hS => ?_)
  refine lv_aload_n hX hB dJ5_init_d00df_17 rfl (lv_at hl 0 rfl) ?_
  refine lv_iconst (v := 0) hX hB dJ5_init_d00df_18 (by decide) ?_
  refine fp_J5_22 C hP hD hS 0 rfl rfl rfl (Nat.le_of_ble_eq_true rfl) (w' := [(b0, .inr (1, [.ref q, .int 0, .int 0, .int 0])), (q, .inl (cy 2, 16, .inl (fun _ => 0)))]) rfl dJ5_init_d00df_19 (fun H locs hP hD hS => ?_)
  refine lv_goto (tgt := 38) hX hB dJ5_init_d00df_22 (by decide) ?_
  exact z_vretx (zfa [q]) (w' := zSBi cy b0) C hRT hP hD hS (Nat.le_of_ble_eq_true rfl) (Nat.le_of_ble_eq_true rfl) rfl dJ5_init_d00df_38
set_option maxHeartbeats 4000000 in
set_option maxRecDepth 100000 in
theorem c_J4_init (l : Launch) {E : zEn} (hE : zEok E) (D : zG) (cy : Nat → ClassId) (hOB : zOutB E) (b0 : Nat) (sz : Nat) : Met l yJ4_init_da8c8 (zws yJ4_init_da8c8 cJ4_init_da8c8 1 none) { frames := 2, cells := 1, slots := 16, locals := 40 } (zPre E D cy [.ref b0] ([(b0, .inr (1, [.null, .int 0, .int 0, .int 0]))]) sz) (zQx D (zSBi cy b0) (va_A ([(b0, .inr (1, [.null, .int 0, .int 0, .int 0]))]) sz)) 1 16 (va_A ([(b0, .inr (1, [.null, .int 0, .int 0, .int 0]))]) sz) := by
  refine z_of (Qc := fun A => zQx D (zSBi cy b0) A) (by decide +kernel) (Nat.le_of_ble_eq_true rfl) rfl ?_
  intro pG eN sT mI below meth cO A ls C hRT hnm hA hP hD hS hE0 hl
  have hX := C.x
  have hB := C.b
  refine lv_aload_n hX hB dJ4_init_da8c8_0 rfl (lv_at hl 0 rfl) ?_
  refine lv_bipush (v := 16) hX hB dJ4_init_da8c8_1 (by decide) ?_
  refine z_callI (isC := [0]) (isR := []) (isO := [0, 1]) (zSBi cy b0) (zSBi cy b0) (c_J5_init l hE D cy hOB b0) hE C zs_J4_1 ⟨Nat.le_of_ble_eq_true rfl, Nat.le_of_ble_eq_true rfl⟩ hP hD hS hA hE0 (fun a => ⟨rfl, rfl, rfl, by decide, rfl, rfl, rfl⟩) rfl hl.1 (Nat.le_of_ble_eq_true rfl) rfl dJ4_init_da8c8_3 ⟨Nat.le_of_ble_eq_true rfl, Nat.le_of_ble_eq_true rfl⟩ (fun a H locs hP hD hS => ?_)
  exact z_vretx a (w' := zSBi cy b0) C hRT hP hD hS (Nat.le_of_ble_eq_true rfl) (Nat.le_of_ble_eq_true rfl) rfl dJ4_init_da8c8_6
