section M6B
def n_X9_digit_1 (v9 : Int32) : Int32 :=
  let o_3 := n_X9_in (-1) 48 57
  if o_3 = 0 then
    nI ((zn v9) + 0)
  else
    nI ((zn v9) + 0)
def q_X9_digit_1 (cy : Nat → ClassId) (h0 : Nat) (h1 : Nat) (h2 : Nat) (h3 : Nat) (h4 : Nat) (h5 : Nat) (h6 : Nat) (h7 : Nat) (h8 : Nat) (h9 : Nat) (v1 : Int32) (v2 : Int32) (v3 : Int32) (v4 : Int32) (v5 : Int32) (v6 : Int32) (v7 : Int32) (v8 : Int32) (v10 : Int32) (gi : Nat → Int32) (o : Int32) : va_W := [(h0, .inr (11, [.ref h1, .ref h2, .ref h3, .ref h4, .ref h5, .int v1, .int v2, .int v3, .int v4, .int v5, .ref h6, .int v6, .ref h7, .ref h8, .ref h9, .int v7, .int v8, .int o, .int v10, .int 1])), (h7, .inl (cy 0, 60, .inl (gi)))]
set_option maxHeartbeats 4000000 in
set_option maxRecDepth 100000 in
theorem c_X9_digit_1 (l : Launch) {E : zEn} (hE : zEok E) (D : zG) (cy : Nat → ClassId) (h0 h1 h2 h3 h4 h5 h6 h7 h8 h9 : Nat) (v1 : Int32) (v2 : Int32) (v3 : Int32) (v4 : Int32) (v5 : Int32) (v6 : Int32) (v7 : Int32) (v8 : Int32) (v9 : Int32) (v10 : Int32) (gi : Nat → Int32) (hat : zle v9 60) (hsl : zle v8 60) (sz : Nat) : Met l yX9_digit (zws yX9_digit cX9_digit 1 (some .int)) { frames := 1, cells := 0, slots := 0, locals := 22 } (zPre E D cy [.ref h0] [(h0, .inr (11, [.ref h1, .ref h2, .ref h3, .ref h4, .ref h5, .int v1, .int v2, .int v3, .int v4, .int v5, .ref h6, .int v6, .ref h7, .ref h8, .ref h9, .int v7, .int v8, .int v9, .int v10, .int 1])), (h7, .inl (cy 0, 60, .inl (gi)))] sz) (zQi D ((q_X9_digit_1 cy h0 h1 h2 h3 h4 h5 h6 h7 h8 h9 v1 v2 v3 v4 v5 v6 v7 v8 v10 gi) (n_X9_digit_1 v9)) (va_A [(h0, .inr (11, [.ref h1, .ref h2, .ref h3, .ref h4, .ref h5, .int v1, .int v2, .int v3, .int v4, .int v5, .ref h6, .int v6, .ref h7, .ref h8, .ref h9, .int v7, .int v8, .int v9, .int v10, .int 1])), (h7, .inl (cy 0, 60, .inl (gi)))] sz) (0)) 0 0 (va_A [(h0, .inr (11, [.ref h1, .ref h2, .ref h3, .ref h4, .ref h5, .int v1, .int v2, .int v3, .int v4, .int v5, .ref h6, .int v6, .ref h7, .ref h8, .ref h9, .int v7, .int v8, .int v9, .int v10, .int 1])), (h7, .inl (cy 0, 60, .inl (gi)))] sz) := by
  refine z_of (Qc := fun A => zQi D ((q_X9_digit_1 cy h0 h1 h2 h3 h4 h5 h6 h7 h8 h9 v1 v2 v3 v4 v5 v6 v7 v8 v10 gi) (n_X9_digit_1 v9)) A (0)) (by decide +kernel) (Nat.le_of_ble_eq_true rfl) rfl ?_
  intro pG eN sT mI below meth cO A ls C hRT hnm hA hP hD hS hE0 hl
  have hX := C.x
  have hB := C.b
  have hat_ := hat.2
  have hsl_ := hsl.2
  refine lv_aload_n hX hB dX9_digit_0 rfl (lv_at hl 0 rfl) ?_
  refine lv_dup hX hB dX9_digit_1 rfl ?_
  refine fg_X9_69 C hP 0 rfl rfl dX9_digit_2 ?_
  refine lv_aload_n hX hB dX9_digit_5 rfl (lv_at hl 0 rfl) ?_
  refine z_callVi (isC := [0, 1]) (isR := []) (isO := [0, 1]) (()) (q_X9_mark_1 cy h0 h1 h2 h3 h4 h5 h6 h7 h8 h9 v1 v2 v3 v4 v5 v6 v7 v8 v9 v10 gi) (fun o_1 => [(h0, .inr (11, [.ref h1, .ref h2, .ref h3, .ref h4, .ref h5, .int v1, .int v2, .int v3, .int v4, .int v5, .ref h6, .int v6, .ref h7, .ref h8, .ref h9, .int v7, .int v8, .int v9, .int v10, .int 1])), (h7, .inl (cy 0, 60, .inl (gi)))]) (fun o_1 => (-1)) (c_X9_mark_1 l hE D cy h0 h1 h2 h3 h4 h5 h6 h7 h8 h9 v1 v2 v3 v4 v5 v6 v7 v8 v9 v10 gi ) hE C zs_X9_196 ⟨Nat.le_of_ble_eq_true rfl, Nat.le_of_ble_eq_true rfl⟩ hP hD hS hA hE0 ⟨rfl, rfl, rfl, by decide, rfl, rfl, rfl⟩ 0 rfl rfl rfl rfl hl.1 (Nat.le_of_ble_eq_true rfl) rfl dX9_digit_6 ⟨Nat.le_of_ble_eq_true rfl, Nat.le_of_ble_eq_true rfl⟩ (fun o_1 H locs eo_1 hP hD hS => ?_)
  refine lv_bipush (v := 32) hX hB dX9_digit_9 (by decide) ?_
  refine lv_icmp_eq (tgt := 18) hX hB dX9_digit_11 (by decide) (fun c => absurd c (by decide)) (fun _ => ?_)
  refine lv_iconst (v := 1) hX hB dX9_digit_14 (by decide) ?_
  refine lv_goto (tgt := 19) hX hB dX9_digit_15 (by decide) ?_
  refine z_ior (v := 1) C dX9_digit_19 (by decide) ?_
  refine fp_X9_69 C hP hD hS 0 rfl (zb01 (Or.inr rfl)) (zfitb (Or.inr rfl)) (Nat.le_of_ble_eq_true rfl) (w' := [(h0, .inr (11, [.ref h1, .ref h2, .ref h3, .ref h4, .ref h5, .int v1, .int v2, .int v3, .int v4, .int v5, .ref h6, .int v6, .ref h7, .ref h8, .ref h9, .int v7, .int v8, .int v9, .int v10, .int 1])), (h7, .inl (cy 0, 60, .inl (gi)))]) rfl dX9_digit_20 (fun H locs hP hD hS => ?_)
  refine lv_aload_n hX hB dX9_digit_23 rfl (lv_at hl 0 rfl) ?_
  refine lv_dup hX hB dX9_digit_24 rfl ?_
  refine fg_X9_63 C hP 0 rfl rfl dX9_digit_25 ?_
  refine lv_aload_n hX hB dX9_digit_28 rfl (lv_at hl 0 rfl) ?_
  refine fg_X9_69 C hP 0 rfl rfl dX9_digit_29 ?_
  refine lv_if_eq (tgt := 39) hX hB dX9_digit_32 (by decide) (fun c => absurd c (by decide)) (fun _ => ?_)
  refine lv_iconst (v := 0) hX hB dX9_digit_35 (by decide) ?_
  refine lv_goto (tgt := 40) hX hB dX9_digit_36 (by decide) ?_
  refine z_iadd (v := nI ((zn v9) + 0)) C dX9_digit_40 (zi_add hat.1 (zlit 0)) ?_
  refine fp_X9_63 C hP hD hS 0 rfl rfl rfl (Nat.le_of_ble_eq_true rfl) (w' := [(h0, .inr (11, [.ref h1, .ref h2, .ref h3, .ref h4, .ref h5, .int v1, .int v2, .int v3, .int v4, .int v5, .ref h6, .int v6, .ref h7, .ref h8, .ref h9, .int v7, .int v8, .int (nI ((zn v9) + 0)), .int v10, .int 1])), (h7, .inl (cy 0, 60, .inl (gi)))]) rfl dX9_digit_41 (fun H locs hP hD hS => ?_)
  refine lv_aload_n hX hB dX9_digit_44 rfl (lv_at hl 0 rfl) ?_
  refine lv_dup hX hB dX9_digit_45 rfl ?_
  refine fg_X9_69 C hP 0 rfl rfl dX9_digit_46 ?_
  refine lv_aload_n hX hB dX9_digit_49 rfl (lv_at hl 0 rfl) ?_
  refine z_callVi (isC := [0, 1]) (isR := []) (isO := [0, 1]) (()) (q_X9_mark_1 cy h0 h1 h2 h3 h4 h5 h6 h7 h8 h9 v1 v2 v3 v4 v5 v6 v7 v8 (nI ((zn v9) + 0)) v10 gi) (fun o_2 => [(h0, .inr (11, [.ref h1, .ref h2, .ref h3, .ref h4, .ref h5, .int v1, .int v2, .int v3, .int v4, .int v5, .ref h6, .int v6, .ref h7, .ref h8, .ref h9, .int v7, .int v8, .int (nI ((zn v9) + 0)), .int v10, .int 1])), (h7, .inl (cy 0, 60, .inl (gi)))]) (fun o_2 => (-1)) (c_X9_mark_1 l hE D cy h0 h1 h2 h3 h4 h5 h6 h7 h8 h9 v1 v2 v3 v4 v5 v6 v7 v8 (nI ((zn v9) + 0)) v10 gi ) hE C zs_X9_196 ⟨Nat.le_of_ble_eq_true rfl, Nat.le_of_ble_eq_true rfl⟩ hP hD hS hA hE0 ⟨rfl, rfl, rfl, by decide, rfl, rfl, rfl⟩ 0 rfl rfl rfl rfl hl.1 (Nat.le_of_ble_eq_true rfl) rfl dX9_digit_50 ⟨Nat.le_of_ble_eq_true rfl, Nat.le_of_ble_eq_true rfl⟩ (fun o_2 H locs eo_2 hP hD hS => ?_)
  refine lv_bipush (v := 48) hX hB dX9_digit_53 (by decide) ?_
  refine lv_bipush (v := 57) hX hB dX9_digit_55 (by decide) ?_
  refine z_callSi (isC := []) (isR := [0, 1]) (isO := [0, 1]) (n_X9_in (-1) 48 57) (q_X9_in ) (fun o_3 => [(h0, .inr (11, [.ref h1, .ref h2, .ref h3, .ref h4, .ref h5, .int v1, .int v2, .int v3, .int v4, .int v5, .ref h6, .int v6, .ref h7, .ref h8, .ref h9, .int v7, .int v8, .int (nI ((zn v9) + 0)), .int v10, .int 1])), (h7, .inl (cy 0, 60, .inl (gi)))]) (fun o_3 => o_3) (c_X9_in l hE D cy  (-1) 48 57 ) hE C zs_X9_127 ⟨Nat.le_of_ble_eq_true rfl, Nat.le_of_ble_eq_true rfl⟩ hP hD hS hA hE0 ⟨rfl, rfl, rfl, by decide, rfl, rfl, rfl⟩ rfl hl.1 (Nat.le_of_ble_eq_true rfl) rfl dX9_digit_57 ⟨Nat.le_of_ble_eq_true rfl, Nat.le_of_ble_eq_true rfl⟩ (fun o_3 H locs eo_3 hP hD hS => ?_)
  refine lv_if_ne (tgt := 67) hX hB dX9_digit_60 (by decide) (fun c_4 => ?_) (fun c_4 => ?_)
  · refine lv_iconst (v := 0) hX hB dX9_digit_67 (by decide) ?_
    refine z_ior (v := 1) C dX9_digit_68 (by decide) ?_
    refine fp_X9_69 C hP hD hS 0 rfl (zb01 (Or.inr rfl)) (zfitb (Or.inr rfl)) (Nat.le_of_ble_eq_true rfl) (w' := [(h0, .inr (11, [.ref h1, .ref h2, .ref h3, .ref h4, .ref h5, .int v1, .int v2, .int v3, .int v4, .int v5, .ref h6, .int v6, .ref h7, .ref h8, .ref h9, .int v7, .int v8, .int (nI ((zn v9) + 0)), .int v10, .int 1])), (h7, .inl (cy 0, 60, .inl (gi)))]) rfl dX9_digit_69 (fun H locs hP hD hS => ?_)
    refine lv_aload_n hX hB dX9_digit_72 rfl (lv_at hl 0 rfl) ?_
    refine fg_X9_69 C hP 0 rfl rfl dX9_digit_73 ?_
    refine lv_if_eq (tgt := 81) hX hB dX9_digit_76 (by decide) (fun c => absurd c (by decide)) (fun _ => ?_)
    refine lv_iconst (v := 0) hX hB dX9_digit_79 (by decide) ?_
    exact z_iret' (nI ((zn v9) + 0)) (w' := q_X9_digit_1 cy h0 h1 h2 h3 h4 h5 h6 h7 h8 h9 v1 v2 v3 v4 v5 v6 v7 v8 v10 gi) (r0 := (fun (o : Int32) => 0)) (by simp only [n_X9_digit_1, ← eo_3, if_neg c_4]) C hRT hP hD hS (Nat.le_of_ble_eq_true rfl) (Nat.le_of_ble_eq_true rfl) rfl rfl dX9_digit_80
  · refine lv_iconst (v := 1) hX hB dX9_digit_63 (by decide) ?_
    refine lv_goto (tgt := 68) hX hB dX9_digit_64 (by decide) ?_
    refine z_ior (v := 1) C dX9_digit_68 (by decide) ?_
    refine fp_X9_69 C hP hD hS 0 rfl (zb01 (Or.inr rfl)) (zfitb (Or.inr rfl)) (Nat.le_of_ble_eq_true rfl) (w' := [(h0, .inr (11, [.ref h1, .ref h2, .ref h3, .ref h4, .ref h5, .int v1, .int v2, .int v3, .int v4, .int v5, .ref h6, .int v6, .ref h7, .ref h8, .ref h9, .int v7, .int v8, .int (nI ((zn v9) + 0)), .int v10, .int 1])), (h7, .inl (cy 0, 60, .inl (gi)))]) rfl dX9_digit_69 (fun H locs hP hD hS => ?_)
    refine lv_aload_n hX hB dX9_digit_72 rfl (lv_at hl 0 rfl) ?_
    refine fg_X9_69 C hP 0 rfl rfl dX9_digit_73 ?_
    refine lv_if_eq (tgt := 81) hX hB dX9_digit_76 (by decide) (fun c => absurd c (by decide)) (fun _ => ?_)
    refine lv_iconst (v := 0) hX hB dX9_digit_79 (by decide) ?_
    exact z_iret' (nI ((zn v9) + 0)) (w' := q_X9_digit_1 cy h0 h1 h2 h3 h4 h5 h6 h7 h8 h9 v1 v2 v3 v4 v5 v6 v7 v8 v10 gi) (r0 := (fun (o : Int32) => 0)) (by simp only [n_X9_digit_1, ← eo_3, if_pos c_4]) C hRT hP hD hS (Nat.le_of_ble_eq_true rfl) (Nat.le_of_ble_eq_true rfl) rfl rfl dX9_digit_80

def n_X9_digit_0 (v8 : Int32) (v9 : Int32) (gi : Nat → Int32) : Int32 × Int32 × Int32 :=
  let o_1 := n_X9_mark_0 v8 v9 gi
  if o_1 = 32 then
    let o_3 := n_X9_mark_0 v8 (nI ((zn v9) + 1)) gi
    let o_4 := n_X9_in o_3 48 57
    if o_4 = 0 then
      (0, nI ((zn v9) + 1), 1)
    else
      ((gi ((((zn v9) + 1) + 1) - 1)) - 48, nI (((zn v9) + 1) + 1), 0)
  else
    let o_7 := n_X9_in (-1) 48 57
    if o_7 = 0 then
      (0, nI ((zn v9) + 0), 1)
    else
      (0, nI ((zn v9) + 0), 1)
def q_X9_digit_0 (cy : Nat → ClassId) (h0 : Nat) (h1 : Nat) (h2 : Nat) (h3 : Nat) (h4 : Nat) (h5 : Nat) (h6 : Nat) (h7 : Nat) (h8 : Nat) (h9 : Nat) (v1 : Int32) (v2 : Int32) (v3 : Int32) (v4 : Int32) (v5 : Int32) (v6 : Int32) (v7 : Int32) (v8 : Int32) (v10 : Int32) (gi : Nat → Int32) (o : Int32 × Int32 × Int32) : va_W := [(h0, .inr (11, [.ref h1, .ref h2, .ref h3, .ref h4, .ref h5, .int v1, .int v2, .int v3, .int v4, .int v5, .ref h6, .int v6, .ref h7, .ref h8, .ref h9, .int v7, .int v8, .int o.2.1, .int v10, .int o.2.2])), (h7, .inl (cy 0, 60, .inl (gi)))]
set_option maxHeartbeats 4000000 in
set_option maxRecDepth 100000 in
theorem c_X9_digit_0 (l : Launch) {E : zEn} (hE : zEok E) (D : zG) (cy : Nat → ClassId) (h0 h1 h2 h3 h4 h5 h6 h7 h8 h9 : Nat) (v1 : Int32) (v2 : Int32) (v3 : Int32) (v4 : Int32) (v5 : Int32) (v6 : Int32) (v7 : Int32) (v8 : Int32) (v9 : Int32) (v10 : Int32) (gi : Nat → Int32) (hat : zle v9 60) (hsl : zle v8 60) (hle : zn v9 ≤ zn v8) (sz : Nat) : Met l yX9_digit (zws yX9_digit cX9_digit 1 (some .int)) { frames := 1, cells := 0, slots := 0, locals := 22 } (zPre E D cy [.ref h0] [(h0, .inr (11, [.ref h1, .ref h2, .ref h3, .ref h4, .ref h5, .int v1, .int v2, .int v3, .int v4, .int v5, .ref h6, .int v6, .ref h7, .ref h8, .ref h9, .int v7, .int v8, .int v9, .int v10, .int 0])), (h7, .inl (cy 0, 60, .inl (gi)))] sz) (zQi D ((q_X9_digit_0 cy h0 h1 h2 h3 h4 h5 h6 h7 h8 h9 v1 v2 v3 v4 v5 v6 v7 v8 v10 gi) (n_X9_digit_0 v8 v9 gi)) (va_A [(h0, .inr (11, [.ref h1, .ref h2, .ref h3, .ref h4, .ref h5, .int v1, .int v2, .int v3, .int v4, .int v5, .ref h6, .int v6, .ref h7, .ref h8, .ref h9, .int v7, .int v8, .int v9, .int v10, .int 0])), (h7, .inl (cy 0, 60, .inl (gi)))] sz) ((n_X9_digit_0 v8 v9 gi).1)) 0 0 (va_A [(h0, .inr (11, [.ref h1, .ref h2, .ref h3, .ref h4, .ref h5, .int v1, .int v2, .int v3, .int v4, .int v5, .ref h6, .int v6, .ref h7, .ref h8, .ref h9, .int v7, .int v8, .int v9, .int v10, .int 0])), (h7, .inl (cy 0, 60, .inl (gi)))] sz) := by
  refine z_of (Qc := fun A => zQi D ((q_X9_digit_0 cy h0 h1 h2 h3 h4 h5 h6 h7 h8 h9 v1 v2 v3 v4 v5 v6 v7 v8 v10 gi) (n_X9_digit_0 v8 v9 gi)) A ((n_X9_digit_0 v8 v9 gi).1)) (by decide +kernel) (Nat.le_of_ble_eq_true rfl) rfl ?_
  intro pG eN sT mI below meth cO A ls C hRT hnm hA hP hD hS hE0 hl
  have hX := C.x
  have hB := C.b
  have hat_ := hat.2
  have hsl_ := hsl.2
  refine lv_aload_n hX hB dX9_digit_0 rfl (lv_at hl 0 rfl) ?_
  refine lv_dup hX hB dX9_digit_1 rfl ?_
  refine fg_X9_69 C hP 0 rfl rfl dX9_digit_2 ?_
  refine lv_aload_n hX hB dX9_digit_5 rfl (lv_at hl 0 rfl) ?_
  refine z_callVi (isC := [0, 1]) (isR := []) (isO := [0, 1]) (n_X9_mark_0 v8 v9 gi) (q_X9_mark_0 cy h0 h1 h2 h3 h4 h5 h6 h7 h8 h9 v1 v2 v3 v4 v5 v6 v7 v8 v9 v10 gi) (fun o_1 => [(h0, .inr (11, [.ref h1, .ref h2, .ref h3, .ref h4, .ref h5, .int v1, .int v2, .int v3, .int v4, .int v5, .ref h6, .int v6, .ref h7, .ref h8, .ref h9, .int v7, .int v8, .int v9, .int v10, .int 0])), (h7, .inl (cy 0, 60, .inl (gi)))]) (fun o_1 => o_1) (c_X9_mark_0 l hE D cy h0 h1 h2 h3 h4 h5 h6 h7 h8 h9 v1 v2 v3 v4 v5 v6 v7 v8 v9 v10 gi (zle_of hat.1 (by omega) (by decide)) (zle_of hsl.1 (by omega) (by decide))) hE C zs_X9_196 ⟨Nat.le_of_ble_eq_true rfl, Nat.le_of_ble_eq_true rfl⟩ hP hD hS hA hE0 ⟨rfl, rfl, rfl, by decide, rfl, rfl, rfl⟩ 0 rfl rfl rfl rfl hl.1 (Nat.le_of_ble_eq_true rfl) rfl dX9_digit_6 ⟨Nat.le_of_ble_eq_true rfl, Nat.le_of_ble_eq_true rfl⟩ (fun o_1 H locs eo_1 hP hD hS => ?_)
  refine lv_bipush (v := 32) hX hB dX9_digit_9 (by decide) ?_
  refine lv_icmp_eq (tgt := 18) hX hB dX9_digit_11 (by decide) (fun c_2 => ?_) (fun c_2 => ?_)
  · have hm18 : zn v9 < zn v8 := mk0_lt hat.1 hsl.1 (by omega) (by omega) (eo_1.symm.trans c_2) (by decide)
    refine lv_iconst (v := 0) hX hB dX9_digit_18 (by decide) ?_
    refine z_ior (v := 0) C dX9_digit_19 (by decide) ?_
    refine fp_X9_69 C hP hD hS 0 rfl (zb01 (Or.inl rfl)) (zfitb (Or.inl rfl)) (Nat.le_of_ble_eq_true rfl) (w' := [(h0, .inr (11, [.ref h1, .ref h2, .ref h3, .ref h4, .ref h5, .int v1, .int v2, .int v3, .int v4, .int v5, .ref h6, .int v6, .ref h7, .ref h8, .ref h9, .int v7, .int v8, .int v9, .int v10, .int 0])), (h7, .inl (cy 0, 60, .inl (gi)))]) rfl dX9_digit_20 (fun H locs hP hD hS => ?_)
    refine lv_aload_n hX hB dX9_digit_23 rfl (lv_at hl 0 rfl) ?_
    refine lv_dup hX hB dX9_digit_24 rfl ?_
    refine fg_X9_63 C hP 0 rfl rfl dX9_digit_25 ?_
    refine lv_aload_n hX hB dX9_digit_28 rfl (lv_at hl 0 rfl) ?_
    refine fg_X9_69 C hP 0 rfl rfl dX9_digit_29 ?_
    refine lv_if_eq (tgt := 39) hX hB dX9_digit_32 (by decide) (fun _ => ?_) (fun c => absurd (by decide) c)
    refine lv_iconst (v := 1) hX hB dX9_digit_39 (by decide) ?_
    refine z_iadd (v := nI ((zn v9) + 1)) C dX9_digit_40 (zi_add hat.1 (zlit 1)) ?_
    refine fp_X9_63 C hP hD hS 0 rfl rfl rfl (Nat.le_of_ble_eq_true rfl) (w' := [(h0, .inr (11, [.ref h1, .ref h2, .ref h3, .ref h4, .ref h5, .int v1, .int v2, .int v3, .int v4, .int v5, .ref h6, .int v6, .ref h7, .ref h8, .ref h9, .int v7, .int v8, .int (nI ((zn v9) + 1)), .int v10, .int 0])), (h7, .inl (cy 0, 60, .inl (gi)))]) rfl dX9_digit_41 (fun H locs hP hD hS => ?_)
    refine lv_aload_n hX hB dX9_digit_44 rfl (lv_at hl 0 rfl) ?_
    refine lv_dup hX hB dX9_digit_45 rfl ?_
    refine fg_X9_69 C hP 0 rfl rfl dX9_digit_46 ?_
    refine lv_aload_n hX hB dX9_digit_49 rfl (lv_at hl 0 rfl) ?_
    refine z_callVi (isC := [0, 1]) (isR := []) (isO := [0, 1]) (n_X9_mark_0 v8 (nI ((zn v9) + 1)) gi) (q_X9_mark_0 cy h0 h1 h2 h3 h4 h5 h6 h7 h8 h9 v1 v2 v3 v4 v5 v6 v7 v8 (nI ((zn v9) + 1)) v10 gi) (fun o_3 => [(h0, .inr (11, [.ref h1, .ref h2, .ref h3, .ref h4, .ref h5, .int v1, .int v2, .int v3, .int v4, .int v5, .ref h6, .int v6, .ref h7, .ref h8, .ref h9, .int v7, .int v8, .int (nI ((zn v9) + 1)), .int v10, .int 0])), (h7, .inl (cy 0, 60, .inl (gi)))]) (fun o_3 => o_3) (c_X9_mark_0 l hE D cy h0 h1 h2 h3 h4 h5 h6 h7 h8 h9 v1 v2 v3 v4 v5 v6 v7 v8 (nI ((zn v9) + 1)) v10 gi (zle_of (zi_i ((zn v9) + 1)) (by omega) (by decide)) (zle_of hsl.1 (by omega) (by decide))) hE C zs_X9_196 ⟨Nat.le_of_ble_eq_true rfl, Nat.le_of_ble_eq_true rfl⟩ hP hD hS hA hE0 ⟨rfl, rfl, rfl, by decide, rfl, rfl, rfl⟩ 0 rfl rfl rfl rfl hl.1 (Nat.le_of_ble_eq_true rfl) rfl dX9_digit_50 ⟨Nat.le_of_ble_eq_true rfl, Nat.le_of_ble_eq_true rfl⟩ (fun o_3 H locs eo_3 hP hD hS => ?_)
    refine lv_bipush (v := 48) hX hB dX9_digit_53 (by decide) ?_
    refine lv_bipush (v := 57) hX hB dX9_digit_55 (by decide) ?_
    refine z_callSi (isC := []) (isR := [0, 1]) (isO := [0, 1]) (n_X9_in o_3 48 57) (q_X9_in ) (fun o_4 => [(h0, .inr (11, [.ref h1, .ref h2, .ref h3, .ref h4, .ref h5, .int v1, .int v2, .int v3, .int v4, .int v5, .ref h6, .int v6, .ref h7, .ref h8, .ref h9, .int v7, .int v8, .int (nI ((zn v9) + 1)), .int v10, .int 0])), (h7, .inl (cy 0, 60, .inl (gi)))]) (fun o_4 => o_4) (c_X9_in l hE D cy  o_3 48 57 ) hE C zs_X9_127 ⟨Nat.le_of_ble_eq_true rfl, Nat.le_of_ble_eq_true rfl⟩ hP hD hS hA hE0 ⟨rfl, rfl, rfl, by decide, rfl, rfl, rfl⟩ rfl hl.1 (Nat.le_of_ble_eq_true rfl) rfl dX9_digit_57 ⟨Nat.le_of_ble_eq_true rfl, Nat.le_of_ble_eq_true rfl⟩ (fun o_4 H locs eo_4 hP hD hS => ?_)
    refine lv_if_ne (tgt := 67) hX hB dX9_digit_60 (by decide) (fun c_5 => ?_) (fun c_5 => ?_)
    · have hm67 : zn v9 + 1 < zn v8 := mk0_lt (zi_i _) hsl.1 (by omega) (by omega) eo_3.symm (fun z => c_5 (by rw [eo_4, z]; decide))
      refine lv_iconst (v := 0) hX hB dX9_digit_67 (by decide) ?_
      refine z_ior (v := 0) C dX9_digit_68 (by decide) ?_
      refine fp_X9_69 C hP hD hS 0 rfl (zb01 (Or.inl rfl)) (zfitb (Or.inl rfl)) (Nat.le_of_ble_eq_true rfl) (w' := [(h0, .inr (11, [.ref h1, .ref h2, .ref h3, .ref h4, .ref h5, .int v1, .int v2, .int v3, .int v4, .int v5, .ref h6, .int v6, .ref h7, .ref h8, .ref h9, .int v7, .int v8, .int (nI ((zn v9) + 1)), .int v10, .int 0])), (h7, .inl (cy 0, 60, .inl (gi)))]) rfl dX9_digit_69 (fun H locs hP hD hS => ?_)
      refine lv_aload_n hX hB dX9_digit_72 rfl (lv_at hl 0 rfl) ?_
      refine fg_X9_69 C hP 0 rfl rfl dX9_digit_73 ?_
      refine lv_if_eq (tgt := 81) hX hB dX9_digit_76 (by decide) (fun _ => ?_) (fun c => absurd (by decide) c)
      refine lv_aload_n hX hB dX9_digit_81 rfl (lv_at hl 0 rfl) ?_
      refine lv_dup hX hB dX9_digit_82 rfl ?_
      refine fg_X9_63 C hP 0 rfl rfl dX9_digit_83 ?_
      refine lv_iconst (v := 1) hX hB dX9_digit_86 (by decide) ?_
      refine z_iadd (v := nI (((zn v9) + 1) + 1)) C dX9_digit_87 (zi_add (zi_i ((zn v9) + 1)) (zlit 1)) ?_
      refine fp_X9_63 C hP hD hS 0 rfl rfl rfl (Nat.le_of_ble_eq_true rfl) (w' := [(h0, .inr (11, [.ref h1, .ref h2, .ref h3, .ref h4, .ref h5, .int v1, .int v2, .int v3, .int v4, .int v5, .ref h6, .int v6, .ref h7, .ref h8, .ref h9, .int v7, .int v8, .int (nI (((zn v9) + 1) + 1)), .int v10, .int 0])), (h7, .inl (cy 0, 60, .inl (gi)))]) rfl dX9_digit_88 (fun H locs hP hD hS => ?_)
      refine lv_aload_n hX hB dX9_digit_91 rfl (lv_at hl 0 rfl) ?_
      refine fg_X9_48 C hP 0 rfl rfl dX9_digit_92 ?_
      refine lv_aload_n hX hB dX9_digit_95 rfl (lv_at hl 0 rfl) ?_
      refine fg_X9_63 C hP 0 rfl rfl dX9_digit_96 ?_
      refine lv_iconst (v := 1) hX hB dX9_digit_99 (by decide) ?_
      refine z_isub (v := nI ((((zn v9) + 1) + 1) - 1)) C dX9_digit_100 (zi_sub (zi_i (((zn v9) + 1) + 1)) (zlit 1) (by omega)) ?_
      refine z_iald C hP 1 rfl (k := (((zn v9) + 1) + 1) - 1) (zi_i ((((zn v9) + 1) + 1) - 1)) (by omega) (by decide) (v := gi ((((zn v9) + 1) + 1) - 1)) rfl dX9_digit_101 ?_
      refine lv_bipush (v := 48) hX hB dX9_digit_102 (by decide) ?_
      refine z_isub (v := (gi ((((zn v9) + 1) + 1) - 1)) - 48) C dX9_digit_104 rfl ?_
      exact z_iret' ((gi ((((zn v9) + 1) + 1) - 1)) - 48, nI (((zn v9) + 1) + 1), 0) (w' := q_X9_digit_0 cy h0 h1 h2 h3 h4 h5 h6 h7 h8 h9 v1 v2 v3 v4 v5 v6 v7 v8 v10 gi) (r0 := (fun (o : Int32 × Int32 × Int32) => o.1)) (by simp only [n_X9_digit_0, ← eo_1, if_pos c_2, ← eo_3, ← eo_4, if_neg c_5]) C hRT hP hD hS (Nat.le_of_ble_eq_true rfl) (Nat.le_of_ble_eq_true rfl) rfl rfl dX9_digit_105
    · refine lv_iconst (v := 1) hX hB dX9_digit_63 (by decide) ?_
      refine lv_goto (tgt := 68) hX hB dX9_digit_64 (by decide) ?_
      refine z_ior (v := 1) C dX9_digit_68 (by decide) ?_
      refine fp_X9_69 C hP hD hS 0 rfl (zb01 (Or.inr rfl)) (zfitb (Or.inr rfl)) (Nat.le_of_ble_eq_true rfl) (w' := [(h0, .inr (11, [.ref h1, .ref h2, .ref h3, .ref h4, .ref h5, .int v1, .int v2, .int v3, .int v4, .int v5, .ref h6, .int v6, .ref h7, .ref h8, .ref h9, .int v7, .int v8, .int (nI ((zn v9) + 1)), .int v10, .int 1])), (h7, .inl (cy 0, 60, .inl (gi)))]) rfl dX9_digit_69 (fun H locs hP hD hS => ?_)
      refine lv_aload_n hX hB dX9_digit_72 rfl (lv_at hl 0 rfl) ?_
      refine fg_X9_69 C hP 0 rfl rfl dX9_digit_73 ?_
      refine lv_if_eq (tgt := 81) hX hB dX9_digit_76 (by decide) (fun c => absurd c (by decide)) (fun _ => ?_)
      refine lv_iconst (v := 0) hX hB dX9_digit_79 (by decide) ?_
      exact z_iret' (0, nI ((zn v9) + 1), 1) (w' := q_X9_digit_0 cy h0 h1 h2 h3 h4 h5 h6 h7 h8 h9 v1 v2 v3 v4 v5 v6 v7 v8 v10 gi) (r0 := (fun (o : Int32 × Int32 × Int32) => o.1)) (by simp only [n_X9_digit_0, ← eo_1, if_pos c_2, ← eo_3, ← eo_4, if_pos c_5]) C hRT hP hD hS (Nat.le_of_ble_eq_true rfl) (Nat.le_of_ble_eq_true rfl) rfl rfl dX9_digit_80
  · refine lv_iconst (v := 1) hX hB dX9_digit_14 (by decide) ?_
    refine lv_goto (tgt := 19) hX hB dX9_digit_15 (by decide) ?_
    refine z_ior (v := 1) C dX9_digit_19 (by decide) ?_
    refine fp_X9_69 C hP hD hS 0 rfl (zb01 (Or.inr rfl)) (zfitb (Or.inr rfl)) (Nat.le_of_ble_eq_true rfl) (w' := [(h0, .inr (11, [.ref h1, .ref h2, .ref h3, .ref h4, .ref h5, .int v1, .int v2, .int v3, .int v4, .int v5, .ref h6, .int v6, .ref h7, .ref h8, .ref h9, .int v7, .int v8, .int v9, .int v10, .int 1])), (h7, .inl (cy 0, 60, .inl (gi)))]) rfl dX9_digit_20 (fun H locs hP hD hS => ?_)
    refine lv_aload_n hX hB dX9_digit_23 rfl (lv_at hl 0 rfl) ?_
    refine lv_dup hX hB dX9_digit_24 rfl ?_
    refine fg_X9_63 C hP 0 rfl rfl dX9_digit_25 ?_
    refine lv_aload_n hX hB dX9_digit_28 rfl (lv_at hl 0 rfl) ?_
    refine fg_X9_69 C hP 0 rfl rfl dX9_digit_29 ?_
    refine lv_if_eq (tgt := 39) hX hB dX9_digit_32 (by decide) (fun c => absurd c (by decide)) (fun _ => ?_)
    refine lv_iconst (v := 0) hX hB dX9_digit_35 (by decide) ?_
    refine lv_goto (tgt := 40) hX hB dX9_digit_36 (by decide) ?_
    refine z_iadd (v := nI ((zn v9) + 0)) C dX9_digit_40 (zi_add hat.1 (zlit 0)) ?_
    refine fp_X9_63 C hP hD hS 0 rfl rfl rfl (Nat.le_of_ble_eq_true rfl) (w' := [(h0, .inr (11, [.ref h1, .ref h2, .ref h3, .ref h4, .ref h5, .int v1, .int v2, .int v3, .int v4, .int v5, .ref h6, .int v6, .ref h7, .ref h8, .ref h9, .int v7, .int v8, .int (nI ((zn v9) + 0)), .int v10, .int 1])), (h7, .inl (cy 0, 60, .inl (gi)))]) rfl dX9_digit_41 (fun H locs hP hD hS => ?_)
    refine lv_aload_n hX hB dX9_digit_44 rfl (lv_at hl 0 rfl) ?_
    refine lv_dup hX hB dX9_digit_45 rfl ?_
    refine fg_X9_69 C hP 0 rfl rfl dX9_digit_46 ?_
    refine lv_aload_n hX hB dX9_digit_49 rfl (lv_at hl 0 rfl) ?_
    refine z_callVi (isC := [0, 1]) (isR := []) (isO := [0, 1]) (()) (q_X9_mark_1 cy h0 h1 h2 h3 h4 h5 h6 h7 h8 h9 v1 v2 v3 v4 v5 v6 v7 v8 (nI ((zn v9) + 0)) v10 gi) (fun o_6 => [(h0, .inr (11, [.ref h1, .ref h2, .ref h3, .ref h4, .ref h5, .int v1, .int v2, .int v3, .int v4, .int v5, .ref h6, .int v6, .ref h7, .ref h8, .ref h9, .int v7, .int v8, .int (nI ((zn v9) + 0)), .int v10, .int 1])), (h7, .inl (cy 0, 60, .inl (gi)))]) (fun o_6 => (-1)) (c_X9_mark_1 l hE D cy h0 h1 h2 h3 h4 h5 h6 h7 h8 h9 v1 v2 v3 v4 v5 v6 v7 v8 (nI ((zn v9) + 0)) v10 gi ) hE C zs_X9_196 ⟨Nat.le_of_ble_eq_true rfl, Nat.le_of_ble_eq_true rfl⟩ hP hD hS hA hE0 ⟨rfl, rfl, rfl, by decide, rfl, rfl, rfl⟩ 0 rfl rfl rfl rfl hl.1 (Nat.le_of_ble_eq_true rfl) rfl dX9_digit_50 ⟨Nat.le_of_ble_eq_true rfl, Nat.le_of_ble_eq_true rfl⟩ (fun o_6 H locs eo_6 hP hD hS => ?_)
    refine lv_bipush (v := 48) hX hB dX9_digit_53 (by decide) ?_
    refine lv_bipush (v := 57) hX hB dX9_digit_55 (by decide) ?_
    refine z_callSi (isC := []) (isR := [0, 1]) (isO := [0, 1]) (n_X9_in (-1) 48 57) (q_X9_in ) (fun o_7 => [(h0, .inr (11, [.ref h1, .ref h2, .ref h3, .ref h4, .ref h5, .int v1, .int v2, .int v3, .int v4, .int v5, .ref h6, .int v6, .ref h7, .ref h8, .ref h9, .int v7, .int v8, .int (nI ((zn v9) + 0)), .int v10, .int 1])), (h7, .inl (cy 0, 60, .inl (gi)))]) (fun o_7 => o_7) (c_X9_in l hE D cy  (-1) 48 57 ) hE C zs_X9_127 ⟨Nat.le_of_ble_eq_true rfl, Nat.le_of_ble_eq_true rfl⟩ hP hD hS hA hE0 ⟨rfl, rfl, rfl, by decide, rfl, rfl, rfl⟩ rfl hl.1 (Nat.le_of_ble_eq_true rfl) rfl dX9_digit_57 ⟨Nat.le_of_ble_eq_true rfl, Nat.le_of_ble_eq_true rfl⟩ (fun o_7 H locs eo_7 hP hD hS => ?_)
    refine lv_if_ne (tgt := 67) hX hB dX9_digit_60 (by decide) (fun c_8 => ?_) (fun c_8 => ?_)
    · refine lv_iconst (v := 0) hX hB dX9_digit_67 (by decide) ?_
      refine z_ior (v := 1) C dX9_digit_68 (by decide) ?_
      refine fp_X9_69 C hP hD hS 0 rfl (zb01 (Or.inr rfl)) (zfitb (Or.inr rfl)) (Nat.le_of_ble_eq_true rfl) (w' := [(h0, .inr (11, [.ref h1, .ref h2, .ref h3, .ref h4, .ref h5, .int v1, .int v2, .int v3, .int v4, .int v5, .ref h6, .int v6, .ref h7, .ref h8, .ref h9, .int v7, .int v8, .int (nI ((zn v9) + 0)), .int v10, .int 1])), (h7, .inl (cy 0, 60, .inl (gi)))]) rfl dX9_digit_69 (fun H locs hP hD hS => ?_)
      refine lv_aload_n hX hB dX9_digit_72 rfl (lv_at hl 0 rfl) ?_
      refine fg_X9_69 C hP 0 rfl rfl dX9_digit_73 ?_
      refine lv_if_eq (tgt := 81) hX hB dX9_digit_76 (by decide) (fun c => absurd c (by decide)) (fun _ => ?_)
      refine lv_iconst (v := 0) hX hB dX9_digit_79 (by decide) ?_
      exact z_iret' (0, nI ((zn v9) + 0), 1) (w' := q_X9_digit_0 cy h0 h1 h2 h3 h4 h5 h6 h7 h8 h9 v1 v2 v3 v4 v5 v6 v7 v8 v10 gi) (r0 := (fun (o : Int32 × Int32 × Int32) => o.1)) (by simp only [n_X9_digit_0, ← eo_1, if_neg c_2, ← eo_7, if_neg c_8]) C hRT hP hD hS (Nat.le_of_ble_eq_true rfl) (Nat.le_of_ble_eq_true rfl) rfl rfl dX9_digit_80
    · refine lv_iconst (v := 1) hX hB dX9_digit_63 (by decide) ?_
      refine lv_goto (tgt := 68) hX hB dX9_digit_64 (by decide) ?_
      refine z_ior (v := 1) C dX9_digit_68 (by decide) ?_
      refine fp_X9_69 C hP hD hS 0 rfl (zb01 (Or.inr rfl)) (zfitb (Or.inr rfl)) (Nat.le_of_ble_eq_true rfl) (w' := [(h0, .inr (11, [.ref h1, .ref h2, .ref h3, .ref h4, .ref h5, .int v1, .int v2, .int v3, .int v4, .int v5, .ref h6, .int v6, .ref h7, .ref h8, .ref h9, .int v7, .int v8, .int (nI ((zn v9) + 0)), .int v10, .int 1])), (h7, .inl (cy 0, 60, .inl (gi)))]) rfl dX9_digit_69 (fun H locs hP hD hS => ?_)
      refine lv_aload_n hX hB dX9_digit_72 rfl (lv_at hl 0 rfl) ?_
      refine fg_X9_69 C hP 0 rfl rfl dX9_digit_73 ?_
      refine lv_if_eq (tgt := 81) hX hB dX9_digit_76 (by decide) (fun c => absurd c (by decide)) (fun _ => ?_)
      refine lv_iconst (v := 0) hX hB dX9_digit_79 (by decide) ?_
      exact z_iret' (0, nI ((zn v9) + 0), 1) (w' := q_X9_digit_0 cy h0 h1 h2 h3 h4 h5 h6 h7 h8 h9 v1 v2 v3 v4 v5 v6 v7 v8 v10 gi) (r0 := (fun (o : Int32 × Int32 × Int32) => o.1)) (by simp only [n_X9_digit_0, ← eo_1, if_neg c_2, ← eo_7, if_pos c_8]) C hRT hP hD hS (Nat.le_of_ble_eq_true rfl) (Nat.le_of_ble_eq_true rfl) rfl rfl dX9_digit_80

def n_X9_word_L2 (v8 : Int32) (v9 : Int32) (gi : Nat → Int32) (w : Nat) (a : Nat) (k0 : Nat → Nat → Int32 × Int32 × Int32) : Nat → Nat → Int32 × Int32 × Int32
  | 0, _ => (0, v9, 0)
  | n_4 + 1, k =>
    let o_6 := n_X9_letter (nI a) (nI k)
    if o_6 ≤ 0 then
      if o_6 = 0 then
        (nI a, nI ((zn v9) + k), 0)
      else
        if nI k ≤ nI w then
          k0 w (a + 1)
        else
          k0 k (a + 1)
    else
      if v8 ≤ nI ((zn v9) + k) then
        if o_6 = 0 then
          (nI a, nI ((zn v9) + k), 0)
        else
          if nI k ≤ nI w then
            k0 w (a + 1)
          else
            k0 k (a + 1)
      else
        if gi ((zn v9) + k) = o_6 then
          n_X9_word_L2 v8 v9 gi w a k0 n_4 (k + 1)
        else
          if o_6 = 0 then
            (nI a, nI ((zn v9) + k), 0)
          else
            if nI k ≤ nI w then
              k0 w (a + 1)
            else
              k0 k (a + 1)
def n_X9_word_L1 (v8 : Int32) (v9 : Int32) (gi : Nat → Int32) : Nat → Nat → Nat → Int32 × Int32 × Int32
  | 0, _, _ => (0, v9, 0)
  | n_1 + 1, w, a =>
    if 8 ≤ nI a then
      (0, nI ((zn v9) + w), 1)
    else
      n_X9_word_L2 v8 v9 gi w a (n_X9_word_L1 v8 v9 gi n_1) 61 0
def n_X9_word (v8 : Int32) (v9 : Int32) (gi : Nat → Int32) : Int32 × Int32 × Int32 :=
  n_X9_word_L1 v8 v9 gi 9 0 0
def q_X9_word (cy : Nat → ClassId) (h0 : Nat) (h1 : Nat) (h2 : Nat) (h3 : Nat) (h4 : Nat) (h5 : Nat) (h6 : Nat) (h7 : Nat) (h8 : Nat) (h9 : Nat) (v1 : Int32) (v2 : Int32) (v3 : Int32) (v4 : Int32) (v5 : Int32) (v6 : Int32) (v7 : Int32) (v8 : Int32) (v10 : Int32) (gi : Nat → Int32) (o : Int32 × Int32 × Int32) : va_W := [(h0, .inr (11, [.ref h1, .ref h2, .ref h3, .ref h4, .ref h5, .int v1, .int v2, .int v3, .int v4, .int v5, .ref h6, .int v6, .ref h7, .ref h8, .ref h9, .int v7, .int v8, .int o.2.1, .int v10, .int o.2.2])), (h7, .inl (cy 0, 60, .inl (gi)))]
set_option maxHeartbeats 4000000 in
set_option maxRecDepth 100000 in
theorem c_X9_word (l : Launch) {E : zEn} (hE : zEok E) (D : zG) (cy : Nat → ClassId) (h0 h1 h2 h3 h4 h5 h6 h7 h8 h9 : Nat) (v1 : Int32) (v2 : Int32) (v3 : Int32) (v4 : Int32) (v5 : Int32) (v6 : Int32) (v7 : Int32) (v8 : Int32) (v9 : Int32) (v10 : Int32) (gi : Nat → Int32) (hat : zle v9 60) (hsl : zle v8 60) (hle : zn v9 ≤ zn v8) (sz : Nat) : Met l yX9_word (zws yX9_word cX9_word 4 (some .int)) { frames := 2, cells := 0, slots := 0, locals := 47 } (zPre E D cy [.ref h0] [(h0, .inr (11, [.ref h1, .ref h2, .ref h3, .ref h4, .ref h5, .int v1, .int v2, .int v3, .int v4, .int v5, .ref h6, .int v6, .ref h7, .ref h8, .ref h9, .int v7, .int v8, .int v9, .int v10, .int 0])), (h7, .inl (cy 0, 60, .inl (gi)))] sz) (zQi D ((q_X9_word cy h0 h1 h2 h3 h4 h5 h6 h7 h8 h9 v1 v2 v3 v4 v5 v6 v7 v8 v10 gi) (n_X9_word v8 v9 gi)) (va_A [(h0, .inr (11, [.ref h1, .ref h2, .ref h3, .ref h4, .ref h5, .int v1, .int v2, .int v3, .int v4, .int v5, .ref h6, .int v6, .ref h7, .ref h8, .ref h9, .int v7, .int v8, .int v9, .int v10, .int 0])), (h7, .inl (cy 0, 60, .inl (gi)))] sz) ((n_X9_word v8 v9 gi).1)) 0 0 (va_A [(h0, .inr (11, [.ref h1, .ref h2, .ref h3, .ref h4, .ref h5, .int v1, .int v2, .int v3, .int v4, .int v5, .ref h6, .int v6, .ref h7, .ref h8, .ref h9, .int v7, .int v8, .int v9, .int v10, .int 0])), (h7, .inl (cy 0, 60, .inl (gi)))] sz) := by
  refine z_of (Qc := fun A => zQi D ((q_X9_word cy h0 h1 h2 h3 h4 h5 h6 h7 h8 h9 v1 v2 v3 v4 v5 v6 v7 v8 v10 gi) (n_X9_word v8 v9 gi)) A ((n_X9_word v8 v9 gi).1)) (by decide +kernel) (Nat.le_of_ble_eq_true rfl) rfl ?_
  intro pG eN sT mI below meth cO A ls C hRT hnm hA hP hD hS hE0 hl
  have hX := C.x
  have hB := C.b
  have hat_ := hat.2
  have hsl_ := hsl.2
  refine lv_iconst (v := 0) hX hB dX9_word_0 (by decide) ?_
  refine lv_istore_n (lv' := [(1, .int 0), (0, .ref h0)]) hX hB dX9_word_1 rfl hl (by decide) rfl (fun ls hl => ?_)
  refine lv_iconst (v := 0) hX hB dX9_word_2 (by decide) ?_
  refine lv_istore_n (lv' := [(2, .int 0), (1, .int 0), (0, .ref h0)]) hX hB dX9_word_3 rfl hl (by decide) rfl (fun ls hl => ?_)
  have loop_0 : ∀ (n_1 : Nat) (w : Nat) (a : Nat), (zn v9 + w ≤ zn v8) → (a ≤ 8) → 8 - a < n_1 → n_X9_word_L1 v8 v9 gi n_1 w a = n_X9_word v8 v9 gi → ∀ (H : Heap) (locs : List Loc), va_P D vwCl [(h0, .inr (11, [.ref h1, .ref h2, .ref h3, .ref h4, .ref h5, .int v1, .int v2, .int v3, .int v4, .int v5, .ref h6, .int v6, .ref h7, .ref h8, .ref h9, .int v7, .int v8, .int v9, .int v10, .int 0])), (h7, .inl (cy 0, 60, .inl (gi)))] H → va_D A [(h0, .inr (11, [.ref h1, .ref h2, .ref h3, .ref h4, .ref h5, .int v1, .int v2, .int v3, .int v4, .int v5, .ref h6, .int v6, .ref h7, .ref h8, .ref h9, .int v7, .int v8, .int v9, .int v10, .int 0])), (h7, .inl (cy 0, 60, .inl (gi)))] → va_S A sT.heap H locs → ∀ (ls : Array Slot), lv_has ls 4 [(2, .int (nI a)), (1, .int (nI w)), (0, .ref h0)] → W pG l eN { frames := 2, cells := 0, slots := 0, locals := 47 } sT mI ([.ref h0] : List Value).toArray below meth cO H locs 0 0 (MQ below (zQi D ((q_X9_word cy h0 h1 h2 h3 h4 h5 h6 h7 h8 h9 v1 v2 v3 v4 v5 v6 v7 v8 v10 gi) (n_X9_word v8 v9 gi)) A ((n_X9_word v8 v9 gi).1)) ([.ref h0] : List Value).toArray sT 0 0 A) (F0 mI 4 ls []) := by
    intro n_1
    induction n_1 with
    | zero =>
      intro w a hb_0_0 hb_0_1 hm_0
      exact absurd hm_0 (by omega)
    | succ n_1 ih_2 =>
      intro w a hb_0_0 hb_0_1 hm_0 hF_0 H locs hP hD hS ls hl
      refine lv_iload_n hX hB dX9_word_4 rfl (lv_at hl 0 rfl) ?_
      refine lv_bipush (v := 8) hX hB dX9_word_5 (by decide) ?_
      refine lv_icmp_ge (tgt := 95) hX hB dX9_word_7 (by decide) (fun c_3 => ?_) (fun c_3 => ?_)
      · have c_3n : 8 ≤ a := (zi_le_iff (zlit 8) (zi_i a) (by decide) (by omega)).mp c_3
        refine lv_aload_n hX hB dX9_word_95 rfl (lv_at hl 2 rfl) ?_
        refine lv_dup hX hB dX9_word_96 rfl ?_
        refine fg_X9_63 C hP 0 rfl rfl dX9_word_97 ?_
        refine lv_iload_n hX hB dX9_word_100 rfl (lv_at hl 1 rfl) ?_
        refine z_iadd (v := nI ((zn v9) + w)) C dX9_word_101 (zi_add hat.1 (zi_i w)) ?_
        refine fp_X9_63 C hP hD hS 0 rfl rfl rfl (Nat.le_of_ble_eq_true rfl) (w' := [(h0, .inr (11, [.ref h1, .ref h2, .ref h3, .ref h4, .ref h5, .int v1, .int v2, .int v3, .int v4, .int v5, .ref h6, .int v6, .ref h7, .ref h8, .ref h9, .int v7, .int v8, .int (nI ((zn v9) + w)), .int v10, .int 0])), (h7, .inl (cy 0, 60, .inl (gi)))]) rfl dX9_word_102 (fun H locs hP hD hS => ?_)
        refine lv_aload_n hX hB dX9_word_105 rfl (lv_at hl 2 rfl) ?_
        refine lv_iconst (v := 1) hX hB dX9_word_106 (by decide) ?_
        refine fp_X9_69 C hP hD hS 0 rfl (zb01 (Or.inr rfl)) (zfitb (Or.inr rfl)) (Nat.le_of_ble_eq_true rfl) (w' := [(h0, .inr (11, [.ref h1, .ref h2, .ref h3, .ref h4, .ref h5, .int v1, .int v2, .int v3, .int v4, .int v5, .ref h6, .int v6, .ref h7, .ref h8, .ref h9, .int v7, .int v8, .int (nI ((zn v9) + w)), .int v10, .int 1])), (h7, .inl (cy 0, 60, .inl (gi)))]) rfl dX9_word_107 (fun H locs hP hD hS => ?_)
        refine lv_iconst (v := 0) hX hB dX9_word_110 (by decide) ?_
        exact z_iret' (0, nI ((zn v9) + w), 1) (w' := q_X9_word cy h0 h1 h2 h3 h4 h5 h6 h7 h8 h9 v1 v2 v3 v4 v5 v6 v7 v8 v10 gi) (r0 := (fun (o : Int32 × Int32 × Int32) => o.1)) (hF_0.symm.trans (by simp only [n_X9_word_L1, if_pos c_3])) C hRT hP hD hS (Nat.le_of_ble_eq_true rfl) (Nat.le_of_ble_eq_true rfl) rfl rfl dX9_word_111
      · have c_3n : ¬ (8 ≤ a) := fun z => c_3 ((zi_le_iff (zlit 8) (zi_i a) (by decide) (by omega)).mpr z)
        refine lv_iconst (v := 0) hX hB dX9_word_10 (by decide) ?_
        refine lv_istore_n (lv' := [(3, .int 0), (2, .int (nI a)), (1, .int (nI w)), (0, .ref h0)]) hX hB dX9_word_11 rfl hl (by decide) rfl (fun ls hl => ?_)
        have loop_1 : ∀ (n_4 : Nat) (k : Nat), (zn v9 + k ≤ zn v8) → zn v8 - (zn v9 + k) < n_4 → n_X9_word_L2 v8 v9 gi w a (n_X9_word_L1 v8 v9 gi n_1) n_4 k = n_X9_word v8 v9 gi → ∀ (H : Heap) (locs : List Loc), va_P D vwCl [(h0, .inr (11, [.ref h1, .ref h2, .ref h3, .ref h4, .ref h5, .int v1, .int v2, .int v3, .int v4, .int v5, .ref h6, .int v6, .ref h7, .ref h8, .ref h9, .int v7, .int v8, .int v9, .int v10, .int 0])), (h7, .inl (cy 0, 60, .inl (gi)))] H → va_D A [(h0, .inr (11, [.ref h1, .ref h2, .ref h3, .ref h4, .ref h5, .int v1, .int v2, .int v3, .int v4, .int v5, .ref h6, .int v6, .ref h7, .ref h8, .ref h9, .int v7, .int v8, .int v9, .int v10, .int 0])), (h7, .inl (cy 0, 60, .inl (gi)))] → va_S A sT.heap H locs → ∀ (ls : Array Slot), lv_has ls 4 [(3, .int (nI k)), (2, .int (nI a)), (1, .int (nI w)), (0, .ref h0)] → W pG l eN { frames := 2, cells := 0, slots := 0, locals := 47 } sT mI ([.ref h0] : List Value).toArray below meth cO H locs 0 0 (MQ below (zQi D ((q_X9_word cy h0 h1 h2 h3 h4 h5 h6 h7 h8 h9 v1 v2 v3 v4 v5 v6 v7 v8 v10 gi) (n_X9_word v8 v9 gi)) A ((n_X9_word v8 v9 gi).1)) ([.ref h0] : List Value).toArray sT 0 0 A) (F0 mI 12 ls []) := by
          intro n_4
          induction n_4 with
          | zero =>
            intro k hb_1_0 hm_1
            exact absurd hm_1 (by omega)
          | succ n_4 ih_5 =>
            intro k hb_1_0 hm_1 hF_1 H locs hP hD hS ls hl
            refine lv_iload_n hX hB dX9_word_12 rfl (lv_at hl 1 rfl) ?_
            refine lv_iload_n hX hB dX9_word_13 rfl (lv_at hl 0 rfl) ?_
            refine z_callSi (isC := []) (isR := [0, 1]) (isO := [0, 1]) (n_X9_letter (nI a) (nI k)) (q_X9_letter ) (fun o_6 => [(h0, .inr (11, [.ref h1, .ref h2, .ref h3, .ref h4, .ref h5, .int v1, .int v2, .int v3, .int v4, .int v5, .ref h6, .int v6, .ref h7, .ref h8, .ref h9, .int v7, .int v8, .int v9, .int v10, .int 0])), (h7, .inl (cy 0, 60, .inl (gi)))]) (fun o_6 => o_6) (c_X9_letter l hE D cy  (nI a) (nI k) ) hE C zs_X9_203 ⟨Nat.le_of_ble_eq_true rfl, Nat.le_of_ble_eq_true rfl⟩ hP hD hS hA hE0 ⟨rfl, rfl, rfl, by decide, rfl, rfl, rfl⟩ rfl hl.1 (Nat.le_of_ble_eq_true rfl) rfl dX9_word_14 ⟨Nat.le_of_ble_eq_true rfl, Nat.le_of_ble_eq_true rfl⟩ (fun o_6 H locs eo_6 hP hD hS => ?_)
            refine lv_if_le (tgt := 58) hX hB dX9_word_17 (by decide) (fun c_7 => ?_) (fun c_7 => ?_)
            · refine lv_iload_n hX hB dX9_word_58 rfl (lv_at hl 1 rfl) ?_
              refine lv_iload_n hX hB dX9_word_59 rfl (lv_at hl 0 rfl) ?_
              refine z_callSi (isC := []) (isR := [0, 1]) (isO := [0, 1]) (n_X9_letter (nI a) (nI k)) (q_X9_letter ) (fun o_8 => [(h0, .inr (11, [.ref h1, .ref h2, .ref h3, .ref h4, .ref h5, .int v1, .int v2, .int v3, .int v4, .int v5, .ref h6, .int v6, .ref h7, .ref h8, .ref h9, .int v7, .int v8, .int v9, .int v10, .int 0])), (h7, .inl (cy 0, 60, .inl (gi)))]) (fun o_8 => o_8) (c_X9_letter l hE D cy  (nI a) (nI k) ) hE C zs_X9_203 ⟨Nat.le_of_ble_eq_true rfl, Nat.le_of_ble_eq_true rfl⟩ hP hD hS hA hE0 ⟨rfl, rfl, rfl, by decide, rfl, rfl, rfl⟩ rfl hl.1 (Nat.le_of_ble_eq_true rfl) rfl dX9_word_60 ⟨Nat.le_of_ble_eq_true rfl, Nat.le_of_ble_eq_true rfl⟩ (fun o_8 H locs eo_8 hP hD hS => ?_)
              have eq_o_8 : o_6 = o_8 := eo_6.trans eo_8.symm
              subst eq_o_8
              refine lv_if_ne (tgt := 78) hX hB dX9_word_63 (by decide) (fun c_9 => ?_) (fun c_9 => ?_)
              · refine lv_iload_n hX hB dX9_word_78 rfl (lv_at hl 0 rfl) ?_
                refine lv_iload_n hX hB dX9_word_79 rfl (lv_at hl 2 rfl) ?_
                refine lv_icmp_le (tgt := 87) hX hB dX9_word_80 (by decide) (fun c_10 => ?_) (fun c_10 => ?_)
                · have c_10n : k ≤ w := (zi_le_iff (zi_i k) (zi_i w) (by omega) (by omega)).mp c_10
                  refine lv_iload_n hX hB dX9_word_87 rfl (lv_at hl 2 rfl) ?_
                  refine lv_istore_n (lv' := [(1, .int (nI w)), (3, .int (nI k)), (2, .int (nI a)), (0, .ref h0)]) hX hB dX9_word_88 rfl hl (by decide) rfl (fun ls hl => ?_)
                  refine lv_iinc (v := nI (a + 1)) (lv' := [(2, .int (nI (a + 1))), (1, .int (nI w)), (3, .int (nI k)), (0, .ref h0)]) hX hB dX9_word_89 hl (k := 2) rfl (zi_add (zi_i a) (zlit 1)) (by decide) rfl (fun ls hl => ?_)
                  refine lv_goto (tgt := 4) hX hB dX9_word_92 (by decide) ?_
                  exact ih_2 w (a + 1) (by omega) (by omega)  (by omega) (Eq.trans (by simp only [n_X9_word_L2, ← eo_6, if_pos c_7, if_neg c_9, if_pos c_10]) hF_1) _ _ hP hD hS ls (lv_sub hl [0, 1, 3] rfl)
                · have c_10n : ¬ (k ≤ w) := fun z => c_10 ((zi_le_iff (zi_i k) (zi_i w) (by omega) (by omega)).mpr z)
                  refine lv_iload_n hX hB dX9_word_83 rfl (lv_at hl 0 rfl) ?_
                  refine lv_goto (tgt := 88) hX hB dX9_word_84 (by decide) ?_
                  refine lv_istore_n (lv' := [(1, .int (nI k)), (3, .int (nI k)), (2, .int (nI a)), (0, .ref h0)]) hX hB dX9_word_88 rfl hl (by decide) rfl (fun ls hl => ?_)
                  refine lv_iinc (v := nI (a + 1)) (lv' := [(2, .int (nI (a + 1))), (1, .int (nI k)), (3, .int (nI k)), (0, .ref h0)]) hX hB dX9_word_89 hl (k := 2) rfl (zi_add (zi_i a) (zlit 1)) (by decide) rfl (fun ls hl => ?_)
                  refine lv_goto (tgt := 4) hX hB dX9_word_92 (by decide) ?_
                  exact ih_2 k (a + 1) (by omega) (by omega)  (by omega) (Eq.trans (by simp only [n_X9_word_L2, ← eo_6, if_pos c_7, if_neg c_9, if_neg c_10]) hF_1) _ _ hP hD hS ls (lv_sub hl [0, 1, 3] rfl)
              · refine lv_aload_n hX hB dX9_word_66 rfl (lv_at hl 3 rfl) ?_
                refine lv_dup hX hB dX9_word_67 rfl ?_
                refine fg_X9_63 C hP 0 rfl rfl dX9_word_68 ?_
                refine lv_iload_n hX hB dX9_word_71 rfl (lv_at hl 0 rfl) ?_
                refine z_iadd (v := nI ((zn v9) + k)) C dX9_word_72 (zi_add hat.1 (zi_i k)) ?_
                refine fp_X9_63 C hP hD hS 0 rfl rfl rfl (Nat.le_of_ble_eq_true rfl) (w' := [(h0, .inr (11, [.ref h1, .ref h2, .ref h3, .ref h4, .ref h5, .int v1, .int v2, .int v3, .int v4, .int v5, .ref h6, .int v6, .ref h7, .ref h8, .ref h9, .int v7, .int v8, .int (nI ((zn v9) + k)), .int v10, .int 0])), (h7, .inl (cy 0, 60, .inl (gi)))]) rfl dX9_word_73 (fun H locs hP hD hS => ?_)
                refine lv_iload_n hX hB dX9_word_76 rfl (lv_at hl 1 rfl) ?_
                exact z_iret' (nI a, nI ((zn v9) + k), 0) (w' := q_X9_word cy h0 h1 h2 h3 h4 h5 h6 h7 h8 h9 v1 v2 v3 v4 v5 v6 v7 v8 v10 gi) (r0 := (fun (o : Int32 × Int32 × Int32) => o.1)) (hF_1.symm.trans (by simp only [n_X9_word_L2, ← eo_6, if_pos c_7, if_pos c_9])) C hRT hP hD hS (Nat.le_of_ble_eq_true rfl) (Nat.le_of_ble_eq_true rfl) rfl rfl dX9_word_77
            · refine lv_aload_n hX hB dX9_word_20 rfl (lv_at hl 3 rfl) ?_
              refine fg_X9_63 C hP 0 rfl rfl dX9_word_21 ?_
              refine lv_iload_n hX hB dX9_word_24 rfl (lv_at hl 0 rfl) ?_
              refine z_iadd (v := nI ((zn v9) + k)) C dX9_word_25 (zi_add hat.1 (zi_i k)) ?_
              refine lv_aload_n hX hB dX9_word_26 rfl (lv_at hl 3 rfl) ?_
              refine fg_X9_60 C hP 0 rfl rfl dX9_word_27 ?_
              refine lv_icmp_ge (tgt := 58) hX hB dX9_word_30 (by decide) (fun c_11 => ?_) (fun c_11 => ?_)
              · have c_11n : zn v8 ≤ (zn v9) + k := (zi_le_iff hsl.1 (zi_i ((zn v9) + k)) (by omega) (by omega)).mp c_11
                refine lv_iload_n hX hB dX9_word_58 rfl (lv_at hl 1 rfl) ?_
                refine lv_iload_n hX hB dX9_word_59 rfl (lv_at hl 0 rfl) ?_
                refine z_callSi (isC := []) (isR := [0, 1]) (isO := [0, 1]) (n_X9_letter (nI a) (nI k)) (q_X9_letter ) (fun o_12 => [(h0, .inr (11, [.ref h1, .ref h2, .ref h3, .ref h4, .ref h5, .int v1, .int v2, .int v3, .int v4, .int v5, .ref h6, .int v6, .ref h7, .ref h8, .ref h9, .int v7, .int v8, .int v9, .int v10, .int 0])), (h7, .inl (cy 0, 60, .inl (gi)))]) (fun o_12 => o_12) (c_X9_letter l hE D cy  (nI a) (nI k) ) hE C zs_X9_203 ⟨Nat.le_of_ble_eq_true rfl, Nat.le_of_ble_eq_true rfl⟩ hP hD hS hA hE0 ⟨rfl, rfl, rfl, by decide, rfl, rfl, rfl⟩ rfl hl.1 (Nat.le_of_ble_eq_true rfl) rfl dX9_word_60 ⟨Nat.le_of_ble_eq_true rfl, Nat.le_of_ble_eq_true rfl⟩ (fun o_12 H locs eo_12 hP hD hS => ?_)
                have eq_o_12 : o_6 = o_12 := eo_6.trans eo_12.symm
                subst eq_o_12
                refine lv_if_ne (tgt := 78) hX hB dX9_word_63 (by decide) (fun c_13 => ?_) (fun c_13 => ?_)
                · refine lv_iload_n hX hB dX9_word_78 rfl (lv_at hl 0 rfl) ?_
                  refine lv_iload_n hX hB dX9_word_79 rfl (lv_at hl 2 rfl) ?_
                  refine lv_icmp_le (tgt := 87) hX hB dX9_word_80 (by decide) (fun c_14 => ?_) (fun c_14 => ?_)
                  · have c_14n : k ≤ w := (zi_le_iff (zi_i k) (zi_i w) (by omega) (by omega)).mp c_14
                    refine lv_iload_n hX hB dX9_word_87 rfl (lv_at hl 2 rfl) ?_
                    refine lv_istore_n (lv' := [(1, .int (nI w)), (3, .int (nI k)), (2, .int (nI a)), (0, .ref h0)]) hX hB dX9_word_88 rfl hl (by decide) rfl (fun ls hl => ?_)
                    refine lv_iinc (v := nI (a + 1)) (lv' := [(2, .int (nI (a + 1))), (1, .int (nI w)), (3, .int (nI k)), (0, .ref h0)]) hX hB dX9_word_89 hl (k := 2) rfl (zi_add (zi_i a) (zlit 1)) (by decide) rfl (fun ls hl => ?_)
                    refine lv_goto (tgt := 4) hX hB dX9_word_92 (by decide) ?_
                    exact ih_2 w (a + 1) (by omega) (by omega)  (by omega) (Eq.trans (by simp only [n_X9_word_L2, ← eo_6, if_neg c_7, if_pos c_11, if_neg c_13, if_pos c_14]) hF_1) _ _ hP hD hS ls (lv_sub hl [0, 1, 3] rfl)
                  · have c_14n : ¬ (k ≤ w) := fun z => c_14 ((zi_le_iff (zi_i k) (zi_i w) (by omega) (by omega)).mpr z)
                    refine lv_iload_n hX hB dX9_word_83 rfl (lv_at hl 0 rfl) ?_
                    refine lv_goto (tgt := 88) hX hB dX9_word_84 (by decide) ?_
                    refine lv_istore_n (lv' := [(1, .int (nI k)), (3, .int (nI k)), (2, .int (nI a)), (0, .ref h0)]) hX hB dX9_word_88 rfl hl (by decide) rfl (fun ls hl => ?_)
                    refine lv_iinc (v := nI (a + 1)) (lv' := [(2, .int (nI (a + 1))), (1, .int (nI k)), (3, .int (nI k)), (0, .ref h0)]) hX hB dX9_word_89 hl (k := 2) rfl (zi_add (zi_i a) (zlit 1)) (by decide) rfl (fun ls hl => ?_)
                    refine lv_goto (tgt := 4) hX hB dX9_word_92 (by decide) ?_
                    exact ih_2 k (a + 1) (by omega) (by omega)  (by omega) (Eq.trans (by simp only [n_X9_word_L2, ← eo_6, if_neg c_7, if_pos c_11, if_neg c_13, if_neg c_14]) hF_1) _ _ hP hD hS ls (lv_sub hl [0, 1, 3] rfl)
                · refine lv_aload_n hX hB dX9_word_66 rfl (lv_at hl 3 rfl) ?_
                  refine lv_dup hX hB dX9_word_67 rfl ?_
                  refine fg_X9_63 C hP 0 rfl rfl dX9_word_68 ?_
                  refine lv_iload_n hX hB dX9_word_71 rfl (lv_at hl 0 rfl) ?_
                  refine z_iadd (v := nI ((zn v9) + k)) C dX9_word_72 (zi_add hat.1 (zi_i k)) ?_
                  refine fp_X9_63 C hP hD hS 0 rfl rfl rfl (Nat.le_of_ble_eq_true rfl) (w' := [(h0, .inr (11, [.ref h1, .ref h2, .ref h3, .ref h4, .ref h5, .int v1, .int v2, .int v3, .int v4, .int v5, .ref h6, .int v6, .ref h7, .ref h8, .ref h9, .int v7, .int v8, .int (nI ((zn v9) + k)), .int v10, .int 0])), (h7, .inl (cy 0, 60, .inl (gi)))]) rfl dX9_word_73 (fun H locs hP hD hS => ?_)
                  refine lv_iload_n hX hB dX9_word_76 rfl (lv_at hl 1 rfl) ?_
                  exact z_iret' (nI a, nI ((zn v9) + k), 0) (w' := q_X9_word cy h0 h1 h2 h3 h4 h5 h6 h7 h8 h9 v1 v2 v3 v4 v5 v6 v7 v8 v10 gi) (r0 := (fun (o : Int32 × Int32 × Int32) => o.1)) (hF_1.symm.trans (by simp only [n_X9_word_L2, ← eo_6, if_neg c_7, if_pos c_11, if_pos c_13])) C hRT hP hD hS (Nat.le_of_ble_eq_true rfl) (Nat.le_of_ble_eq_true rfl) rfl rfl dX9_word_77
              · have c_11n : ¬ (zn v8 ≤ (zn v9) + k) := fun z => c_11 ((zi_le_iff hsl.1 (zi_i ((zn v9) + k)) (by omega) (by omega)).mpr z)
                refine lv_aload_n hX hB dX9_word_33 rfl (lv_at hl 3 rfl) ?_
                refine fg_X9_48 C hP 0 rfl rfl dX9_word_34 ?_
                refine lv_aload_n hX hB dX9_word_37 rfl (lv_at hl 3 rfl) ?_
                refine fg_X9_63 C hP 0 rfl rfl dX9_word_38 ?_
                refine lv_iload_n hX hB dX9_word_41 rfl (lv_at hl 0 rfl) ?_
                refine z_iadd (v := nI ((zn v9) + k)) C dX9_word_42 (zi_add hat.1 (zi_i k)) ?_
                refine z_iald C hP 1 rfl (k := (zn v9) + k) (zi_i ((zn v9) + k)) (by omega) (by decide) (v := gi ((zn v9) + k)) rfl dX9_word_43 ?_
                refine lv_iload_n hX hB dX9_word_44 rfl (lv_at hl 1 rfl) ?_
                refine lv_iload_n hX hB dX9_word_45 rfl (lv_at hl 0 rfl) ?_
                refine z_callSi (isC := []) (isR := [0, 1]) (isO := [0, 1]) (n_X9_letter (nI a) (nI k)) (q_X9_letter ) (fun o_15 => [(h0, .inr (11, [.ref h1, .ref h2, .ref h3, .ref h4, .ref h5, .int v1, .int v2, .int v3, .int v4, .int v5, .ref h6, .int v6, .ref h7, .ref h8, .ref h9, .int v7, .int v8, .int v9, .int v10, .int 0])), (h7, .inl (cy 0, 60, .inl (gi)))]) (fun o_15 => o_15) (c_X9_letter l hE D cy  (nI a) (nI k) ) hE C zs_X9_203 ⟨Nat.le_of_ble_eq_true rfl, Nat.le_of_ble_eq_true rfl⟩ hP hD hS hA hE0 ⟨rfl, rfl, rfl, by decide, rfl, rfl, rfl⟩ rfl hl.1 (Nat.le_of_ble_eq_true rfl) rfl dX9_word_46 ⟨Nat.le_of_ble_eq_true rfl, Nat.le_of_ble_eq_true rfl⟩ (fun o_15 H locs eo_15 hP hD hS => ?_)
                have eq_o_15 : o_6 = o_15 := eo_6.trans eo_15.symm
                subst eq_o_15
                refine lv_icmp_ne (tgt := 58) hX hB dX9_word_49 (by decide) (fun c_16 => ?_) (fun c_16 => ?_)
                · refine lv_iload_n hX hB dX9_word_58 rfl (lv_at hl 1 rfl) ?_
                  refine lv_iload_n hX hB dX9_word_59 rfl (lv_at hl 0 rfl) ?_
                  refine z_callSi (isC := []) (isR := [0, 1]) (isO := [0, 1]) (n_X9_letter (nI a) (nI k)) (q_X9_letter ) (fun o_17 => [(h0, .inr (11, [.ref h1, .ref h2, .ref h3, .ref h4, .ref h5, .int v1, .int v2, .int v3, .int v4, .int v5, .ref h6, .int v6, .ref h7, .ref h8, .ref h9, .int v7, .int v8, .int v9, .int v10, .int 0])), (h7, .inl (cy 0, 60, .inl (gi)))]) (fun o_17 => o_17) (c_X9_letter l hE D cy  (nI a) (nI k) ) hE C zs_X9_203 ⟨Nat.le_of_ble_eq_true rfl, Nat.le_of_ble_eq_true rfl⟩ hP hD hS hA hE0 ⟨rfl, rfl, rfl, by decide, rfl, rfl, rfl⟩ rfl hl.1 (Nat.le_of_ble_eq_true rfl) rfl dX9_word_60 ⟨Nat.le_of_ble_eq_true rfl, Nat.le_of_ble_eq_true rfl⟩ (fun o_17 H locs eo_17 hP hD hS => ?_)
                  have eq_o_17 : o_6 = o_17 := eo_6.trans eo_17.symm
                  subst eq_o_17
                  refine lv_if_ne (tgt := 78) hX hB dX9_word_63 (by decide) (fun c_18 => ?_) (fun c_18 => ?_)
                  · refine lv_iload_n hX hB dX9_word_78 rfl (lv_at hl 0 rfl) ?_
                    refine lv_iload_n hX hB dX9_word_79 rfl (lv_at hl 2 rfl) ?_
                    refine lv_icmp_le (tgt := 87) hX hB dX9_word_80 (by decide) (fun c_19 => ?_) (fun c_19 => ?_)
                    · have c_19n : k ≤ w := (zi_le_iff (zi_i k) (zi_i w) (by omega) (by omega)).mp c_19
                      refine lv_iload_n hX hB dX9_word_87 rfl (lv_at hl 2 rfl) ?_
                      refine lv_istore_n (lv' := [(1, .int (nI w)), (3, .int (nI k)), (2, .int (nI a)), (0, .ref h0)]) hX hB dX9_word_88 rfl hl (by decide) rfl (fun ls hl => ?_)
                      refine lv_iinc (v := nI (a + 1)) (lv' := [(2, .int (nI (a + 1))), (1, .int (nI w)), (3, .int (nI k)), (0, .ref h0)]) hX hB dX9_word_89 hl (k := 2) rfl (zi_add (zi_i a) (zlit 1)) (by decide) rfl (fun ls hl => ?_)
                      refine lv_goto (tgt := 4) hX hB dX9_word_92 (by decide) ?_
                      exact ih_2 w (a + 1) (by omega) (by omega)  (by omega) (Eq.trans (by simp only [n_X9_word_L2, ← eo_6, if_neg c_7, if_neg c_11, if_neg c_16, if_neg c_18, if_pos c_19]) hF_1) _ _ hP hD hS ls (lv_sub hl [0, 1, 3] rfl)
                    · have c_19n : ¬ (k ≤ w) := fun z => c_19 ((zi_le_iff (zi_i k) (zi_i w) (by omega) (by omega)).mpr z)
                      refine lv_iload_n hX hB dX9_word_83 rfl (lv_at hl 0 rfl) ?_
                      refine lv_goto (tgt := 88) hX hB dX9_word_84 (by decide) ?_
                      refine lv_istore_n (lv' := [(1, .int (nI k)), (3, .int (nI k)), (2, .int (nI a)), (0, .ref h0)]) hX hB dX9_word_88 rfl hl (by decide) rfl (fun ls hl => ?_)
                      refine lv_iinc (v := nI (a + 1)) (lv' := [(2, .int (nI (a + 1))), (1, .int (nI k)), (3, .int (nI k)), (0, .ref h0)]) hX hB dX9_word_89 hl (k := 2) rfl (zi_add (zi_i a) (zlit 1)) (by decide) rfl (fun ls hl => ?_)
                      refine lv_goto (tgt := 4) hX hB dX9_word_92 (by decide) ?_
                      exact ih_2 k (a + 1) (by omega) (by omega)  (by omega) (Eq.trans (by simp only [n_X9_word_L2, ← eo_6, if_neg c_7, if_neg c_11, if_neg c_16, if_neg c_18, if_neg c_19]) hF_1) _ _ hP hD hS ls (lv_sub hl [0, 1, 3] rfl)
                  · refine lv_aload_n hX hB dX9_word_66 rfl (lv_at hl 3 rfl) ?_
                    refine lv_dup hX hB dX9_word_67 rfl ?_
                    refine fg_X9_63 C hP 0 rfl rfl dX9_word_68 ?_
                    refine lv_iload_n hX hB dX9_word_71 rfl (lv_at hl 0 rfl) ?_
                    refine z_iadd (v := nI ((zn v9) + k)) C dX9_word_72 (zi_add hat.1 (zi_i k)) ?_
                    refine fp_X9_63 C hP hD hS 0 rfl rfl rfl (Nat.le_of_ble_eq_true rfl) (w' := [(h0, .inr (11, [.ref h1, .ref h2, .ref h3, .ref h4, .ref h5, .int v1, .int v2, .int v3, .int v4, .int v5, .ref h6, .int v6, .ref h7, .ref h8, .ref h9, .int v7, .int v8, .int (nI ((zn v9) + k)), .int v10, .int 0])), (h7, .inl (cy 0, 60, .inl (gi)))]) rfl dX9_word_73 (fun H locs hP hD hS => ?_)
                    refine lv_iload_n hX hB dX9_word_76 rfl (lv_at hl 1 rfl) ?_
                    exact z_iret' (nI a, nI ((zn v9) + k), 0) (w' := q_X9_word cy h0 h1 h2 h3 h4 h5 h6 h7 h8 h9 v1 v2 v3 v4 v5 v6 v7 v8 v10 gi) (r0 := (fun (o : Int32 × Int32 × Int32) => o.1)) (hF_1.symm.trans (by simp only [n_X9_word_L2, ← eo_6, if_neg c_7, if_neg c_11, if_neg c_16, if_pos c_18])) C hRT hP hD hS (Nat.le_of_ble_eq_true rfl) (Nat.le_of_ble_eq_true rfl) rfl rfl dX9_word_77
                · refine lv_iinc (v := nI (k + 1)) (lv' := [(3, .int (nI (k + 1))), (2, .int (nI a)), (1, .int (nI w)), (0, .ref h0)]) hX hB dX9_word_52 hl (k := 0) rfl (zi_add (zi_i k) (zlit 1)) (by decide) rfl (fun ls hl => ?_)
                  refine lv_goto (tgt := 12) hX hB dX9_word_55 (by decide) ?_
                  exact ih_5 (k + 1) (by omega)  (by omega) (Eq.trans (by simp only [n_X9_word_L2, ← eo_6, if_neg c_7, if_neg c_11, if_pos c_16]) hF_1) _ _ hP hD hS ls (lv_sub hl [0, 1, 2, 3] rfl)
        exact loop_1 61 0 (by omega)  (by omega) (Eq.trans (by simp only [n_X9_word_L1, if_neg c_3]) hF_0) _ _ hP hD hS ls hl
  exact loop_0 9 0 0 (by omega) (by omega)  (by omega) (by simp only [n_X9_word]) _ _ hP hD hS ls hl

end M6B
