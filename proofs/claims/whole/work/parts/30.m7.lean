section M7
def n_X9_command (v8 : Int32) (v9 : Int32) (v10 : Int32) (gi : Nat → Int32) (gk : Nat → Int32) (gn : Nat → Int32) : Int32 × Int32 × Int32 × (Nat → Int32) × (Nat → Int32) :=
  let o_1 := n_X9_word v8 v9 gi
  if o_1.2.2 = 0 then
    if 4 ≤ o_1.1 then
      (o_1.2.1, nI ((zn v10) + 1), 0, upd gk (zn v10) o_1.1, upd gn (zn v10) 0)
    else
      let o_4 := n_X9_digit_0 v8 o_1.2.1 gi
      if o_4.2.2 = 0 then
        (o_4.2.1, nI ((zn v10) + 1), o_4.2.2, upd gk (zn v10) o_1.1, upd gn (zn v10) o_4.1)
      else
        (o_4.2.1, v10, o_4.2.2, gk, gn)
  else
    if 4 ≤ o_1.1 then
      (o_1.2.1, v10, 1, gk, gn)
    else
      let o_7 := n_X9_digit_1 o_1.2.1
      (o_7, v10, 1, gk, gn)
def q_X9_command (cy : Nat → ClassId) (h0 : Nat) (h1 : Nat) (h2 : Nat) (h3 : Nat) (h4 : Nat) (h5 : Nat) (h6 : Nat) (h7 : Nat) (h8 : Nat) (h9 : Nat) (v1 : Int32) (v2 : Int32) (v3 : Int32) (v4 : Int32) (v5 : Int32) (v6 : Int32) (v7 : Int32) (v8 : Int32) (gi : Nat → Int32) (o : Int32 × Int32 × Int32 × (Nat → Int32) × (Nat → Int32)) : va_W := [(h0, .inr (11, [.ref h1, .ref h2, .ref h3, .ref h4, .ref h5, .int v1, .int v2, .int v3, .int v4, .int v5, .ref h6, .int v6, .ref h7, .ref h8, .ref h9, .int v7, .int v8, .int o.1, .int o.2.1, .int o.2.2.1])), (h7, .inl (cy 0, 60, .inl (gi))), (h8, .inl (cy 0, 32, .inl (o.2.2.2.1))), (h9, .inl (cy 0, 32, .inl (o.2.2.2.2)))]
set_option maxHeartbeats 4000000 in
set_option maxRecDepth 100000 in
theorem c_X9_command (l : Launch) {E : zEn} (hE : zEok E) (D : zG) (cy : Nat → ClassId) (h0 h1 h2 h3 h4 h5 h6 h7 h8 h9 : Nat) (v1 : Int32) (v2 : Int32) (v3 : Int32) (v4 : Int32) (v5 : Int32) (v6 : Int32) (v7 : Int32) (v8 : Int32) (v9 : Int32) (v10 : Int32) (gi : Nat → Int32) (gk : Nat → Int32) (gn : Nat → Int32) (hat : zle v9 60) (hsl : zle v8 60) (hle : zn v9 ≤ zn v8) (hcm : zle v10 31) (sz : Nat) : Met l yX9_command (zws yX9_command cX9_command 3 none) { frames := 3, cells := 0, slots := 0, locals := 70 } (zPre E D cy [.ref h0] [(h0, .inr (11, [.ref h1, .ref h2, .ref h3, .ref h4, .ref h5, .int v1, .int v2, .int v3, .int v4, .int v5, .ref h6, .int v6, .ref h7, .ref h8, .ref h9, .int v7, .int v8, .int v9, .int v10, .int 0])), (h7, .inl (cy 0, 60, .inl (gi))), (h8, .inl (cy 0, 32, .inl (gk))), (h9, .inl (cy 0, 32, .inl (gn)))] sz) (zQv D ((q_X9_command cy h0 h1 h2 h3 h4 h5 h6 h7 h8 h9 v1 v2 v3 v4 v5 v6 v7 v8 gi) (n_X9_command v8 v9 v10 gi gk gn)) (va_A [(h0, .inr (11, [.ref h1, .ref h2, .ref h3, .ref h4, .ref h5, .int v1, .int v2, .int v3, .int v4, .int v5, .ref h6, .int v6, .ref h7, .ref h8, .ref h9, .int v7, .int v8, .int v9, .int v10, .int 0])), (h7, .inl (cy 0, 60, .inl (gi))), (h8, .inl (cy 0, 32, .inl (gk))), (h9, .inl (cy 0, 32, .inl (gn)))] sz)) 0 0 (va_A [(h0, .inr (11, [.ref h1, .ref h2, .ref h3, .ref h4, .ref h5, .int v1, .int v2, .int v3, .int v4, .int v5, .ref h6, .int v6, .ref h7, .ref h8, .ref h9, .int v7, .int v8, .int v9, .int v10, .int 0])), (h7, .inl (cy 0, 60, .inl (gi))), (h8, .inl (cy 0, 32, .inl (gk))), (h9, .inl (cy 0, 32, .inl (gn)))] sz) := by
  refine z_of (Qc := fun A => zQv D ((q_X9_command cy h0 h1 h2 h3 h4 h5 h6 h7 h8 h9 v1 v2 v3 v4 v5 v6 v7 v8 gi) (n_X9_command v8 v9 v10 gi gk gn)) A) (by decide +kernel) (Nat.le_of_ble_eq_true rfl) rfl ?_
  intro pG eN sT mI below meth cO A ls C hRT hnm hA hP hD hS hE0 hl
  have hX := C.x
  have hB := C.b
  have hat_ := hat.2
  have hsl_ := hsl.2
  have hcm_ := hcm.2
  refine lv_aload_n hX hB dX9_command_0 rfl (lv_at hl 0 rfl) ?_
  refine z_callVi (isC := [0, 1]) (isR := [2, 3]) (isO := [2, 3, 0, 1]) (n_X9_word v8 v9 gi) (q_X9_word cy h0 h1 h2 h3 h4 h5 h6 h7 h8 h9 v1 v2 v3 v4 v5 v6 v7 v8 v10 gi) (fun o_1 => [(h0, .inr (11, [.ref h1, .ref h2, .ref h3, .ref h4, .ref h5, .int v1, .int v2, .int v3, .int v4, .int v5, .ref h6, .int v6, .ref h7, .ref h8, .ref h9, .int v7, .int v8, .int o_1.2.1, .int v10, .int o_1.2.2])), (h7, .inl (cy 0, 60, .inl (gi))), (h8, .inl (cy 0, 32, .inl (gk))), (h9, .inl (cy 0, 32, .inl (gn)))]) (fun o_1 => o_1.1) (c_X9_word l hE D cy h0 h1 h2 h3 h4 h5 h6 h7 h8 h9 v1 v2 v3 v4 v5 v6 v7 v8 v9 v10 gi (zle_of hat.1 (by omega) (by decide)) (zle_of hsl.1 (by omega) (by decide)) (zn_le hat.1 hsl.1 (by omega) (by omega))) hE C zs_X9_206 ⟨Nat.le_of_ble_eq_true rfl, Nat.le_of_ble_eq_true rfl⟩ hP hD hS hA hE0 ⟨rfl, rfl, rfl, by decide, rfl, rfl, rfl⟩ 0 rfl rfl rfl rfl hl.1 (Nat.le_of_ble_eq_true rfl) rfl dX9_command_1 ⟨Nat.le_of_ble_eq_true rfl, Nat.le_of_ble_eq_true rfl⟩ (fun o_1 H locs eo_1 hP hD hS => ?_)
  have zo_1_1 : zn o_1.2.1 ≤ 60 := by rw [eo_1]; exact (zword_at v8 v9 gi (zle_of hat.1 (by omega) (by decide)) (zle_of hsl.1 (by omega) (by decide)) (zn_le hat.1 hsl.1 (by omega) (by omega))).2
  have hfa_o_1 : zn v9 ≤ zn o_1.2.1 ∧ zn o_1.2.1 ≤ zn v8 := by rw [eo_1]; exact zword_f v8 v9 gi (zle_of hat.1 (by omega) (by decide)) (zle_of hsl.1 (by omega) (by decide)) (zn_le hat.1 hsl.1 (by omega) (by omega))
  refine zby (o_1.2.2 = 0) (fun c_2 => ?_) (fun c_2 => ?_)
  · rw [c_2] at hP hD
    refine lv_istore_n (lv' := [(1, .int o_1.1), (0, .ref h0)]) hX hB dX9_command_4 rfl hl (by decide) rfl (fun ls hl => ?_)
    refine lv_iload_n hX hB dX9_command_5 rfl (lv_at hl 0 rfl) ?_
    refine lv_iconst (v := 4) hX hB dX9_command_6 (by decide) ?_
    refine lv_icmp_ge (tgt := 17) hX hB dX9_command_7 (by decide) (fun c_3 => ?_) (fun c_3 => ?_)
    · refine lv_iconst (v := 0) hX hB dX9_command_17 (by decide) ?_
      refine lv_istore_n (lv' := [(2, .int 0), (1, .int o_1.1), (0, .ref h0)]) hX hB dX9_command_18 rfl hl (by decide) rfl (fun ls hl => ?_)
      refine lv_aload_n hX hB dX9_command_19 rfl (lv_at hl 2 rfl) ?_
      refine fg_X9_69 C hP 0 rfl rfl dX9_command_20 ?_
      refine lv_if_eq (tgt := 27) hX hB dX9_command_23 (by decide) (fun _ => ?_) (fun c => absurd (by decide) c)
      refine lv_aload_n hX hB dX9_command_27 rfl (lv_at hl 2 rfl) ?_
      refine fg_X9_51 C hP 0 rfl rfl dX9_command_28 ?_
      refine lv_aload_n hX hB dX9_command_31 rfl (lv_at hl 2 rfl) ?_
      refine fg_X9_66 C hP 0 rfl rfl dX9_command_32 ?_
      refine lv_iload_n hX hB dX9_command_35 rfl (lv_at hl 1 rfl) ?_
      refine z_iast C hP hD hS 2 rfl (k := zn v10) hcm.1 (by omega) (by decide) (w' := [(h0, .inr (11, [.ref h1, .ref h2, .ref h3, .ref h4, .ref h5, .int v1, .int v2, .int v3, .int v4, .int v5, .ref h6, .int v6, .ref h7, .ref h8, .ref h9, .int v7, .int v8, .int o_1.2.1, .int v10, .int 0])), (h7, .inl (cy 0, 60, .inl (gi))), (h8, .inl (cy 0, 32, .inl (upd gk (zn v10) o_1.1))), (h9, .inl (cy 0, 32, .inl (gn)))]) rfl dX9_command_36 (fun H locs hP hD hS => ?_)
      refine lv_aload_n hX hB dX9_command_37 rfl (lv_at hl 2 rfl) ?_
      refine fg_X9_54 C hP 0 rfl rfl dX9_command_38 ?_
      refine lv_aload_n hX hB dX9_command_41 rfl (lv_at hl 2 rfl) ?_
      refine fg_X9_66 C hP 0 rfl rfl dX9_command_42 ?_
      refine lv_iload_n hX hB dX9_command_45 rfl (lv_at hl 0 rfl) ?_
      refine z_iast C hP hD hS 3 rfl (k := zn v10) hcm.1 (by omega) (by decide) (w' := [(h0, .inr (11, [.ref h1, .ref h2, .ref h3, .ref h4, .ref h5, .int v1, .int v2, .int v3, .int v4, .int v5, .ref h6, .int v6, .ref h7, .ref h8, .ref h9, .int v7, .int v8, .int o_1.2.1, .int v10, .int 0])), (h7, .inl (cy 0, 60, .inl (gi))), (h8, .inl (cy 0, 32, .inl (upd gk (zn v10) o_1.1))), (h9, .inl (cy 0, 32, .inl (upd gn (zn v10) 0)))]) rfl dX9_command_46 (fun H locs hP hD hS => ?_)
      refine lv_aload_n hX hB dX9_command_47 rfl (lv_at hl 2 rfl) ?_
      refine lv_dup hX hB dX9_command_48 rfl ?_
      refine fg_X9_66 C hP 0 rfl rfl dX9_command_49 ?_
      refine lv_iconst (v := 1) hX hB dX9_command_52 (by decide) ?_
      refine z_iadd (v := nI ((zn v10) + 1)) C dX9_command_53 (zi_add hcm.1 (zlit 1)) ?_
      refine fp_X9_66 C hP hD hS 0 rfl rfl rfl (Nat.le_of_ble_eq_true rfl) (w' := [(h0, .inr (11, [.ref h1, .ref h2, .ref h3, .ref h4, .ref h5, .int v1, .int v2, .int v3, .int v4, .int v5, .ref h6, .int v6, .ref h7, .ref h8, .ref h9, .int v7, .int v8, .int o_1.2.1, .int (nI ((zn v10) + 1)), .int 0])), (h7, .inl (cy 0, 60, .inl (gi))), (h8, .inl (cy 0, 32, .inl (upd gk (zn v10) o_1.1))), (h9, .inl (cy 0, 32, .inl (upd gn (zn v10) 0)))]) rfl dX9_command_54 (fun H locs hP hD hS => ?_)
      exact z_vret' (o_1.2.1, nI ((zn v10) + 1), 0, upd gk (zn v10) o_1.1, upd gn (zn v10) 0) (w' := q_X9_command cy h0 h1 h2 h3 h4 h5 h6 h7 h8 h9 v1 v2 v3 v4 v5 v6 v7 v8 gi) (by simp only [n_X9_command, ← eo_1, if_pos c_2, if_pos c_3]) C hRT hP hD hS (Nat.le_of_ble_eq_true rfl) (Nat.le_of_ble_eq_true rfl) rfl dX9_command_57
    · refine lv_aload_n hX hB dX9_command_10 rfl (lv_at hl 1 rfl) ?_
      refine z_callVi (isC := [0, 1]) (isR := [2, 3]) (isO := [2, 3, 0, 1]) (n_X9_digit_0 v8 o_1.2.1 gi) (q_X9_digit_0 cy h0 h1 h2 h3 h4 h5 h6 h7 h8 h9 v1 v2 v3 v4 v5 v6 v7 v8 v10 gi) (fun o_4 => [(h0, .inr (11, [.ref h1, .ref h2, .ref h3, .ref h4, .ref h5, .int v1, .int v2, .int v3, .int v4, .int v5, .ref h6, .int v6, .ref h7, .ref h8, .ref h9, .int v7, .int v8, .int o_4.2.1, .int v10, .int o_4.2.2])), (h7, .inl (cy 0, 60, .inl (gi))), (h8, .inl (cy 0, 32, .inl (gk))), (h9, .inl (cy 0, 32, .inl (gn)))]) (fun o_4 => o_4.1) (c_X9_digit_0 l hE D cy h0 h1 h2 h3 h4 h5 h6 h7 h8 h9 v1 v2 v3 v4 v5 v6 v7 v8 o_1.2.1 v10 gi (zle_of (show zi o_1.2.1 (zn o_1.2.1) from by rw [eo_1]; exact (zword_at v8 v9 gi (zle_of hat.1 (by omega) (by decide)) (zle_of hsl.1 (by omega) (by decide)) (zn_le hat.1 hsl.1 (by omega) (by omega))).1) (by omega) (by decide)) (zle_of hsl.1 (by omega) (by decide)) (zn_le (show zi o_1.2.1 (zn o_1.2.1) from by rw [eo_1]; exact (zword_at v8 v9 gi (zle_of hat.1 (by omega) (by decide)) (zle_of hsl.1 (by omega) (by decide)) (zn_le hat.1 hsl.1 (by omega) (by omega))).1) hsl.1 (by omega) (by omega))) hE C zs_X9_209 ⟨Nat.le_of_ble_eq_true rfl, Nat.le_of_ble_eq_true rfl⟩ hP hD hS hA hE0 ⟨rfl, rfl, rfl, by decide, rfl, rfl, rfl⟩ 0 rfl rfl rfl rfl hl.1 (Nat.le_of_ble_eq_true rfl) rfl dX9_command_11 ⟨Nat.le_of_ble_eq_true rfl, Nat.le_of_ble_eq_true rfl⟩ (fun o_4 H locs eo_4 hP hD hS => ?_)
      have zo_4_1 : zn o_4.2.1 ≤ 60 := by rw [eo_4]; exact (dg0_at v8 o_1.2.1 gi (zle_of (show zi o_1.2.1 (zn o_1.2.1) from by rw [eo_1]; exact (zword_at v8 v9 gi (zle_of hat.1 (by omega) (by decide)) (zle_of hsl.1 (by omega) (by decide)) (zn_le hat.1 hsl.1 (by omega) (by omega))).1) (by omega) (by decide)) (zle_of hsl.1 (by omega) (by decide)) (zn_le (show zi o_1.2.1 (zn o_1.2.1) from by rw [eo_1]; exact (zword_at v8 v9 gi (zle_of hat.1 (by omega) (by decide)) (zle_of hsl.1 (by omega) (by decide)) (zn_le hat.1 hsl.1 (by omega) (by omega))).1) hsl.1 (by omega) (by omega))).2
      have hfa_o_4 : zn o_1.2.1 ≤ zn o_4.2.1 ∧ zn o_4.2.1 ≤ zn v8 := by rw [eo_4]; exact dg0_f v8 o_1.2.1 gi (zle_of (show zi o_1.2.1 (zn o_1.2.1) from by rw [eo_1]; exact (zword_at v8 v9 gi (zle_of hat.1 (by omega) (by decide)) (zle_of hsl.1 (by omega) (by decide)) (zn_le hat.1 hsl.1 (by omega) (by omega))).1) (by omega) (by decide)) (zle_of hsl.1 (by omega) (by decide)) (zn_le (show zi o_1.2.1 (zn o_1.2.1) from by rw [eo_1]; exact (zword_at v8 v9 gi (zle_of hat.1 (by omega) (by decide)) (zle_of hsl.1 (by omega) (by decide)) (zn_le hat.1 hsl.1 (by omega) (by omega))).1) hsl.1 (by omega) (by omega))
      refine lv_goto (tgt := 18) hX hB dX9_command_14 (by decide) ?_
      refine lv_istore_n (lv' := [(2, .int o_4.1), (1, .int o_1.1), (0, .ref h0)]) hX hB dX9_command_18 rfl hl (by decide) rfl (fun ls hl => ?_)
      refine lv_aload_n hX hB dX9_command_19 rfl (lv_at hl 2 rfl) ?_
      refine fg_X9_69 C hP 0 rfl rfl dX9_command_20 ?_
      refine lv_if_eq (tgt := 27) hX hB dX9_command_23 (by decide) (fun c_5 => ?_) (fun c_5 => ?_)
      · refine lv_aload_n hX hB dX9_command_27 rfl (lv_at hl 2 rfl) ?_
        refine fg_X9_51 C hP 0 rfl rfl dX9_command_28 ?_
        refine lv_aload_n hX hB dX9_command_31 rfl (lv_at hl 2 rfl) ?_
        refine fg_X9_66 C hP 0 rfl rfl dX9_command_32 ?_
        refine lv_iload_n hX hB dX9_command_35 rfl (lv_at hl 1 rfl) ?_
        refine z_iast C hP hD hS 2 rfl (k := zn v10) hcm.1 (by omega) (by decide) (w' := [(h0, .inr (11, [.ref h1, .ref h2, .ref h3, .ref h4, .ref h5, .int v1, .int v2, .int v3, .int v4, .int v5, .ref h6, .int v6, .ref h7, .ref h8, .ref h9, .int v7, .int v8, .int o_4.2.1, .int v10, .int o_4.2.2])), (h7, .inl (cy 0, 60, .inl (gi))), (h8, .inl (cy 0, 32, .inl (upd gk (zn v10) o_1.1))), (h9, .inl (cy 0, 32, .inl (gn)))]) rfl dX9_command_36 (fun H locs hP hD hS => ?_)
        refine lv_aload_n hX hB dX9_command_37 rfl (lv_at hl 2 rfl) ?_
        refine fg_X9_54 C hP 0 rfl rfl dX9_command_38 ?_
        refine lv_aload_n hX hB dX9_command_41 rfl (lv_at hl 2 rfl) ?_
        refine fg_X9_66 C hP 0 rfl rfl dX9_command_42 ?_
        refine lv_iload_n hX hB dX9_command_45 rfl (lv_at hl 0 rfl) ?_
        refine z_iast C hP hD hS 3 rfl (k := zn v10) hcm.1 (by omega) (by decide) (w' := [(h0, .inr (11, [.ref h1, .ref h2, .ref h3, .ref h4, .ref h5, .int v1, .int v2, .int v3, .int v4, .int v5, .ref h6, .int v6, .ref h7, .ref h8, .ref h9, .int v7, .int v8, .int o_4.2.1, .int v10, .int o_4.2.2])), (h7, .inl (cy 0, 60, .inl (gi))), (h8, .inl (cy 0, 32, .inl (upd gk (zn v10) o_1.1))), (h9, .inl (cy 0, 32, .inl (upd gn (zn v10) o_4.1)))]) rfl dX9_command_46 (fun H locs hP hD hS => ?_)
        refine lv_aload_n hX hB dX9_command_47 rfl (lv_at hl 2 rfl) ?_
        refine lv_dup hX hB dX9_command_48 rfl ?_
        refine fg_X9_66 C hP 0 rfl rfl dX9_command_49 ?_
        refine lv_iconst (v := 1) hX hB dX9_command_52 (by decide) ?_
        refine z_iadd (v := nI ((zn v10) + 1)) C dX9_command_53 (zi_add hcm.1 (zlit 1)) ?_
        refine fp_X9_66 C hP hD hS 0 rfl rfl rfl (Nat.le_of_ble_eq_true rfl) (w' := [(h0, .inr (11, [.ref h1, .ref h2, .ref h3, .ref h4, .ref h5, .int v1, .int v2, .int v3, .int v4, .int v5, .ref h6, .int v6, .ref h7, .ref h8, .ref h9, .int v7, .int v8, .int o_4.2.1, .int (nI ((zn v10) + 1)), .int o_4.2.2])), (h7, .inl (cy 0, 60, .inl (gi))), (h8, .inl (cy 0, 32, .inl (upd gk (zn v10) o_1.1))), (h9, .inl (cy 0, 32, .inl (upd gn (zn v10) o_4.1)))]) rfl dX9_command_54 (fun H locs hP hD hS => ?_)
        exact z_vret' (o_4.2.1, nI ((zn v10) + 1), o_4.2.2, upd gk (zn v10) o_1.1, upd gn (zn v10) o_4.1) (w' := q_X9_command cy h0 h1 h2 h3 h4 h5 h6 h7 h8 h9 v1 v2 v3 v4 v5 v6 v7 v8 gi) (by simp only [n_X9_command, ← eo_1, if_pos c_2, if_neg c_3, ← eo_4, if_pos c_5]) C hRT hP hD hS (Nat.le_of_ble_eq_true rfl) (Nat.le_of_ble_eq_true rfl) rfl dX9_command_57
      · exact z_vret' (o_4.2.1, v10, o_4.2.2, gk, gn) (w' := q_X9_command cy h0 h1 h2 h3 h4 h5 h6 h7 h8 h9 v1 v2 v3 v4 v5 v6 v7 v8 gi) (by simp only [n_X9_command, ← eo_1, if_pos c_2, if_neg c_3, ← eo_4, if_neg c_5]) C hRT hP hD hS (Nat.le_of_ble_eq_true rfl) (Nat.le_of_ble_eq_true rfl) rfl dX9_command_26
  · have c_2s : o_1.2.2 = 1 := ((show o_1.2.2 = 0 ∨ o_1.2.2 = 1 from by rw [eo_1]; exact zword_w v8 v9 gi (zle_of hat.1 (by omega) (by decide)) (zle_of hsl.1 (by omega) (by decide)) (zn_le hat.1 hsl.1 (by omega) (by omega)))).resolve_left c_2
    rw [c_2s] at hP hD
    refine lv_istore_n (lv' := [(1, .int o_1.1), (0, .ref h0)]) hX hB dX9_command_4 rfl hl (by decide) rfl (fun ls hl => ?_)
    refine lv_iload_n hX hB dX9_command_5 rfl (lv_at hl 0 rfl) ?_
    refine lv_iconst (v := 4) hX hB dX9_command_6 (by decide) ?_
    refine lv_icmp_ge (tgt := 17) hX hB dX9_command_7 (by decide) (fun c_6 => ?_) (fun c_6 => ?_)
    · refine lv_iconst (v := 0) hX hB dX9_command_17 (by decide) ?_
      refine lv_istore_n (lv' := [(2, .int 0), (1, .int o_1.1), (0, .ref h0)]) hX hB dX9_command_18 rfl hl (by decide) rfl (fun ls hl => ?_)
      refine lv_aload_n hX hB dX9_command_19 rfl (lv_at hl 2 rfl) ?_
      refine fg_X9_69 C hP 0 rfl rfl dX9_command_20 ?_
      refine lv_if_eq (tgt := 27) hX hB dX9_command_23 (by decide) (fun c => absurd c (by decide)) (fun _ => ?_)
      exact z_vret' (o_1.2.1, v10, 1, gk, gn) (w' := q_X9_command cy h0 h1 h2 h3 h4 h5 h6 h7 h8 h9 v1 v2 v3 v4 v5 v6 v7 v8 gi) (by simp only [n_X9_command, ← eo_1, if_neg c_2, if_pos c_6]) C hRT hP hD hS (Nat.le_of_ble_eq_true rfl) (Nat.le_of_ble_eq_true rfl) rfl dX9_command_26
    · refine lv_aload_n hX hB dX9_command_10 rfl (lv_at hl 1 rfl) ?_
      refine z_callVi (isC := [0, 1]) (isR := [2, 3]) (isO := [2, 3, 0, 1]) (n_X9_digit_1 o_1.2.1) (q_X9_digit_1 cy h0 h1 h2 h3 h4 h5 h6 h7 h8 h9 v1 v2 v3 v4 v5 v6 v7 v8 v10 gi) (fun o_7 => [(h0, .inr (11, [.ref h1, .ref h2, .ref h3, .ref h4, .ref h5, .int v1, .int v2, .int v3, .int v4, .int v5, .ref h6, .int v6, .ref h7, .ref h8, .ref h9, .int v7, .int v8, .int o_7, .int v10, .int 1])), (h7, .inl (cy 0, 60, .inl (gi))), (h8, .inl (cy 0, 32, .inl (gk))), (h9, .inl (cy 0, 32, .inl (gn)))]) (fun o_7 => 0) (c_X9_digit_1 l hE D cy h0 h1 h2 h3 h4 h5 h6 h7 h8 h9 v1 v2 v3 v4 v5 v6 v7 v8 o_1.2.1 v10 gi (zle_of (show zi o_1.2.1 (zn o_1.2.1) from by rw [eo_1]; exact (zword_at v8 v9 gi (zle_of hat.1 (by omega) (by decide)) (zle_of hsl.1 (by omega) (by decide)) (zn_le hat.1 hsl.1 (by omega) (by omega))).1) (by omega) (by decide)) (zle_of hsl.1 (by omega) (by decide))) hE C zs_X9_209 ⟨Nat.le_of_ble_eq_true rfl, Nat.le_of_ble_eq_true rfl⟩ hP hD hS hA hE0 ⟨rfl, rfl, rfl, by decide, rfl, rfl, rfl⟩ 0 rfl rfl rfl rfl hl.1 (Nat.le_of_ble_eq_true rfl) rfl dX9_command_11 ⟨Nat.le_of_ble_eq_true rfl, Nat.le_of_ble_eq_true rfl⟩ (fun o_7 H locs eo_7 hP hD hS => ?_)
      refine lv_goto (tgt := 18) hX hB dX9_command_14 (by decide) ?_
      refine lv_istore_n (lv' := [(2, .int 0), (1, .int o_1.1), (0, .ref h0)]) hX hB dX9_command_18 rfl hl (by decide) rfl (fun ls hl => ?_)
      refine lv_aload_n hX hB dX9_command_19 rfl (lv_at hl 2 rfl) ?_
      refine fg_X9_69 C hP 0 rfl rfl dX9_command_20 ?_
      refine lv_if_eq (tgt := 27) hX hB dX9_command_23 (by decide) (fun c => absurd c (by decide)) (fun _ => ?_)
      exact z_vret' (o_7, v10, 1, gk, gn) (w' := q_X9_command cy h0 h1 h2 h3 h4 h5 h6 h7 h8 h9 v1 v2 v3 v4 v5 v6 v7 v8 gi) (by simp only [n_X9_command, ← eo_1, if_neg c_2, if_neg c_6, ← eo_7]) C hRT hP hD hS (Nat.le_of_ble_eq_true rfl) (Nat.le_of_ble_eq_true rfl) rfl dX9_command_26

end M7
