section M8
def n_X9_parse_L1 (v7 : Int32) (gi : Nat → Int32) : Nat → (Nat → Int32) → (Nat → Int32) → Int32 → Int32 → Int32 → Int32 × Int32 × Int32 × Int32 × Int32 × (Nat → Int32) × (Nat → Int32)
  | 0, f_3, f_4, v_5, v_6, v_7 => (0, v7, v_5, v_6, v_7, f_3, f_4)
  | n_2 + 1, f_3, f_4, v_5, v_6, v_7 =>
    if v_7 = 0 then
      let o_10 := n_X9_mark_0 v7 v_5 gi
      if o_10 = 59 then
        let o_13 := n_X9_command v7 (nI ((zn v_5) + 1)) v_6 gi f_3 f_4
        n_X9_parse_L1 v7 gi n_2 o_13.2.2.2.1 o_13.2.2.2.2 o_13.1 o_13.2.1 o_13.2.2.1
      else
        if v7 ≤ v_5 then
          (0, v7, v_5, v_6, 0, f_3, f_4)
        else
          (0, v7, v_5, v_6, 1, f_3, f_4)
    else
      if v7 ≤ v_5 then
        (0, v7, v_5, v_6, 1, f_3, f_4)
      else
        (0, v7, v_5, v_6, 1, f_3, f_4)
def n_X9_parse (v7 : Int32) (gi : Nat → Int32) (gk : Nat → Int32) (gn : Nat → Int32) : Int32 × Int32 × Int32 × Int32 × Int32 × (Nat → Int32) × (Nat → Int32) :=
  let o_1 := n_X9_command v7 0 0 gi gk gn
  n_X9_parse_L1 v7 gi 62 o_1.2.2.2.1 o_1.2.2.2.2 o_1.1 o_1.2.1 o_1.2.2.1
def q_X9_parse (cy : Nat → ClassId) (h0 : Nat) (h1 : Nat) (h2 : Nat) (h3 : Nat) (h4 : Nat) (h5 : Nat) (h6 : Nat) (h7 : Nat) (h8 : Nat) (h9 : Nat) (v1 : Int32) (v2 : Int32) (v3 : Int32) (v4 : Int32) (v5 : Int32) (v6 : Int32) (gi : Nat → Int32) (o : Int32 × Int32 × Int32 × Int32 × Int32 × (Nat → Int32) × (Nat → Int32)) : va_W := [(h0, .inr (11, [.ref h1, .ref h2, .ref h3, .ref h4, .ref h5, .int v1, .int v2, .int v3, .int v4, .int v5, .ref h6, .int v6, .ref h7, .ref h8, .ref h9, .int o.1, .int o.2.1, .int o.2.2.1, .int o.2.2.2.1, .int o.2.2.2.2.1])), (h7, .inl (cy 0, 60, .inl (gi))), (h8, .inl (cy 0, 32, .inl (o.2.2.2.2.2.1))), (h9, .inl (cy 0, 32, .inl (o.2.2.2.2.2.2)))]
set_option maxHeartbeats 4000000 in
set_option maxRecDepth 100000 in
theorem c_X9_parse (l : Launch) {E : zEn} (hE : zEok E) (D : zG) (cy : Nat → ClassId) (h0 h1 h2 h3 h4 h5 h6 h7 h8 h9 : Nat) (v1 : Int32) (v2 : Int32) (v3 : Int32) (v4 : Int32) (v5 : Int32) (v6 : Int32) (v7 : Int32) (v8 : Int32) (v9 : Int32) (v10 : Int32) (v11 : Int32) (gi : Nat → Int32) (gk : Nat → Int32) (gn : Nat → Int32) (hln : zle v7 60) (sz : Nat) : Met l yX9_parse (zws yX9_parse cX9_parse 1 none) { frames := 4, cells := 0, slots := 0, locals := 92 } (zPre E D cy [.ref h0] [(h0, .inr (11, [.ref h1, .ref h2, .ref h3, .ref h4, .ref h5, .int v1, .int v2, .int v3, .int v4, .int v5, .ref h6, .int v6, .ref h7, .ref h8, .ref h9, .int v7, .int v8, .int v9, .int v10, .int v11])), (h7, .inl (cy 0, 60, .inl (gi))), (h8, .inl (cy 0, 32, .inl (gk))), (h9, .inl (cy 0, 32, .inl (gn)))] sz) (zQv D ((q_X9_parse cy h0 h1 h2 h3 h4 h5 h6 h7 h8 h9 v1 v2 v3 v4 v5 v6 gi) (n_X9_parse v7 gi gk gn)) (va_A [(h0, .inr (11, [.ref h1, .ref h2, .ref h3, .ref h4, .ref h5, .int v1, .int v2, .int v3, .int v4, .int v5, .ref h6, .int v6, .ref h7, .ref h8, .ref h9, .int v7, .int v8, .int v9, .int v10, .int v11])), (h7, .inl (cy 0, 60, .inl (gi))), (h8, .inl (cy 0, 32, .inl (gk))), (h9, .inl (cy 0, 32, .inl (gn)))] sz)) 0 0 (va_A [(h0, .inr (11, [.ref h1, .ref h2, .ref h3, .ref h4, .ref h5, .int v1, .int v2, .int v3, .int v4, .int v5, .ref h6, .int v6, .ref h7, .ref h8, .ref h9, .int v7, .int v8, .int v9, .int v10, .int v11])), (h7, .inl (cy 0, 60, .inl (gi))), (h8, .inl (cy 0, 32, .inl (gk))), (h9, .inl (cy 0, 32, .inl (gn)))] sz) := by
  refine z_of (Qc := fun A => zQv D ((q_X9_parse cy h0 h1 h2 h3 h4 h5 h6 h7 h8 h9 v1 v2 v3 v4 v5 v6 gi) (n_X9_parse v7 gi gk gn)) A) (by decide +kernel) (Nat.le_of_ble_eq_true rfl) rfl ?_
  intro pG eN sT mI below meth cO A ls C hRT hnm hA hP hD hS hE0 hl
  have hX := C.x
  have hB := C.b
  have hln_ := hln.2
  refine lv_aload_n hX hB dX9_parse_0 rfl (lv_at hl 0 rfl) ?_
  refine lv_aload_n hX hB dX9_parse_1 rfl (lv_at hl 0 rfl) ?_
  refine fg_X9_57 C hP 0 rfl rfl dX9_parse_2 ?_
  refine fp_X9_60 C hP hD hS 0 rfl rfl rfl (Nat.le_of_ble_eq_true rfl) (w' := [(h0, .inr (11, [.ref h1, .ref h2, .ref h3, .ref h4, .ref h5, .int v1, .int v2, .int v3, .int v4, .int v5, .ref h6, .int v6, .ref h7, .ref h8, .ref h9, .int v7, .int v7, .int v9, .int v10, .int v11])), (h7, .inl (cy 0, 60, .inl (gi))), (h8, .inl (cy 0, 32, .inl (gk))), (h9, .inl (cy 0, 32, .inl (gn)))]) rfl dX9_parse_5 (fun H locs hP hD hS => ?_)
  refine lv_aload_n hX hB dX9_parse_8 rfl (lv_at hl 0 rfl) ?_
  refine lv_iconst (v := 0) hX hB dX9_parse_9 (by decide) ?_
  refine fp_X9_57 C hP hD hS 0 rfl rfl rfl (Nat.le_of_ble_eq_true rfl) (w' := [(h0, .inr (11, [.ref h1, .ref h2, .ref h3, .ref h4, .ref h5, .int v1, .int v2, .int v3, .int v4, .int v5, .ref h6, .int v6, .ref h7, .ref h8, .ref h9, .int 0, .int v7, .int v9, .int v10, .int v11])), (h7, .inl (cy 0, 60, .inl (gi))), (h8, .inl (cy 0, 32, .inl (gk))), (h9, .inl (cy 0, 32, .inl (gn)))]) rfl dX9_parse_10 (fun H locs hP hD hS => ?_)
  refine lv_aload_n hX hB dX9_parse_13 rfl (lv_at hl 0 rfl) ?_
  refine lv_iconst (v := 0) hX hB dX9_parse_14 (by decide) ?_
  refine fp_X9_63 C hP hD hS 0 rfl rfl rfl (Nat.le_of_ble_eq_true rfl) (w' := [(h0, .inr (11, [.ref h1, .ref h2, .ref h3, .ref h4, .ref h5, .int v1, .int v2, .int v3, .int v4, .int v5, .ref h6, .int v6, .ref h7, .ref h8, .ref h9, .int 0, .int v7, .int 0, .int v10, .int v11])), (h7, .inl (cy 0, 60, .inl (gi))), (h8, .inl (cy 0, 32, .inl (gk))), (h9, .inl (cy 0, 32, .inl (gn)))]) rfl dX9_parse_15 (fun H locs hP hD hS => ?_)
  refine lv_aload_n hX hB dX9_parse_18 rfl (lv_at hl 0 rfl) ?_
  refine lv_iconst (v := 0) hX hB dX9_parse_19 (by decide) ?_
  refine fp_X9_66 C hP hD hS 0 rfl rfl rfl (Nat.le_of_ble_eq_true rfl) (w' := [(h0, .inr (11, [.ref h1, .ref h2, .ref h3, .ref h4, .ref h5, .int v1, .int v2, .int v3, .int v4, .int v5, .ref h6, .int v6, .ref h7, .ref h8, .ref h9, .int 0, .int v7, .int 0, .int 0, .int v11])), (h7, .inl (cy 0, 60, .inl (gi))), (h8, .inl (cy 0, 32, .inl (gk))), (h9, .inl (cy 0, 32, .inl (gn)))]) rfl dX9_parse_20 (fun H locs hP hD hS => ?_)
  refine lv_aload_n hX hB dX9_parse_23 rfl (lv_at hl 0 rfl) ?_
  refine lv_iconst (v := 0) hX hB dX9_parse_24 (by decide) ?_
  refine fp_X9_69 C hP hD hS 0 rfl (zb01 (Or.inl rfl)) (zfitb (Or.inl rfl)) (Nat.le_of_ble_eq_true rfl) (w' := [(h0, .inr (11, [.ref h1, .ref h2, .ref h3, .ref h4, .ref h5, .int v1, .int v2, .int v3, .int v4, .int v5, .ref h6, .int v6, .ref h7, .ref h8, .ref h9, .int 0, .int v7, .int 0, .int 0, .int 0])), (h7, .inl (cy 0, 60, .inl (gi))), (h8, .inl (cy 0, 32, .inl (gk))), (h9, .inl (cy 0, 32, .inl (gn)))]) rfl dX9_parse_25 (fun H locs hP hD hS => ?_)
  refine lv_aload_n hX hB dX9_parse_28 rfl (lv_at hl 0 rfl) ?_
  refine z_callVv (isC := [0, 1, 2, 3]) (isR := []) (isO := [0, 1, 2, 3]) (n_X9_command v7 0 0 gi gk gn) (q_X9_command cy h0 h1 h2 h3 h4 h5 h6 h7 h8 h9 v1 v2 v3 v4 v5 v6 0 v7 gi) (fun o_1 => [(h0, .inr (11, [.ref h1, .ref h2, .ref h3, .ref h4, .ref h5, .int v1, .int v2, .int v3, .int v4, .int v5, .ref h6, .int v6, .ref h7, .ref h8, .ref h9, .int 0, .int v7, .int o_1.1, .int o_1.2.1, .int o_1.2.2.1])), (h7, .inl (cy 0, 60, .inl (gi))), (h8, .inl (cy 0, 32, .inl (o_1.2.2.2.1))), (h9, .inl (cy 0, 32, .inl (o_1.2.2.2.2)))]) (c_X9_command l hE D cy h0 h1 h2 h3 h4 h5 h6 h7 h8 h9 v1 v2 v3 v4 v5 v6 0 v7 0 0 gi gk gn (zle_of (zlit 0) (by omega) (by decide)) (zle_of hln.1 (by omega) (by decide)) (zn_le (zlit 0) hln.1 (by omega) (by omega)) (zle_of (zlit 0) (by omega) (by decide))) hE C zs_X9_212 ⟨Nat.le_of_ble_eq_true rfl, Nat.le_of_ble_eq_true rfl⟩ hP hD hS hA hE0 ⟨rfl, rfl, rfl, by decide, rfl, rfl, rfl⟩ 0 rfl rfl rfl rfl hl.1 (Nat.le_of_ble_eq_true rfl) rfl dX9_parse_29 ⟨Nat.le_of_ble_eq_true rfl, Nat.le_of_ble_eq_true rfl⟩ (fun o_1 H locs eo_1 hP hD hS => ?_)
  have zo_1_0 : zn o_1.1 ≤ 60 := by rw [eo_1]; exact (zcm_at v7 0 0 gi gk gn (zle_of (zlit 0) (by omega) (by decide)) (zle_of hln.1 (by omega) (by decide)) (zn_le (zlit 0) hln.1 (by omega) (by omega)) (zle_of (zlit 0) (by omega) (by decide))).2
  have hzz_o_1_0 : zn 0 = 0 := zn_of (zlit 0) (by omega)
  have hzz_o_1_2 : zn 0 = 0 := zn_of (zlit 0) (by omega)
  have hfc_o_1 : zn 0 ≤ zn o_1.1 ∧ zn o_1.1 ≤ zn v7 ∧ zn o_1.2.1 ≤ zn 0 + 1 ∧ (o_1.2.2.1 = 0 → zn 0 + 2 ≤ zn o_1.1 ∧ zn o_1.2.1 = zn 0 + 1) := by rw [eo_1]; exact zcm_f v7 0 0 gi gk gn (zle_of (zlit 0) (by omega) (by decide)) (zle_of hln.1 (by omega) (by decide)) (zn_le (zlit 0) hln.1 (by omega) (by omega)) (zle_of (zlit 0) (by omega) (by decide))
  have hfd_o_1 := hfc_o_1.2.2.2
  have zo_1_1 : zn o_1.2.1 ≤ 32 := by rw [eo_1]; exact (zcm_c v7 0 0 gi gk gn (zle_of (zlit 0) (by omega) (by decide)) (zle_of hln.1 (by omega) (by decide)) (zn_le (zlit 0) hln.1 (by omega) (by omega)) (zle_of (zlit 0) (by omega) (by decide))).2
  have loop_0 : ∀ (n_2 : Nat) (f_3 : Nat → Int32) (f_4 : Nat → Int32) (v_5 : Int32) (v_6 : Int32) (v_7 : Int32), (zle v_5 60) → (zle v_6 31) → (v_7 = 0 ∨ v_7 = 1) → (zn v_5 ≤ zn v7) → (v_7 = 0 → 2 * zn v_6 ≤ zn v_5) → zn v7 + 1 - zn v_5 < n_2 → n_X9_parse_L1 v7 gi n_2 f_3 f_4 v_5 v_6 v_7 = n_X9_parse v7 gi gk gn → ∀ (H : Heap) (locs : List Loc), va_P D vwCl [(h0, .inr (11, [.ref h1, .ref h2, .ref h3, .ref h4, .ref h5, .int v1, .int v2, .int v3, .int v4, .int v5, .ref h6, .int v6, .ref h7, .ref h8, .ref h9, .int 0, .int v7, .int v_5, .int v_6, .int v_7])), (h7, .inl (cy 0, 60, .inl (gi))), (h8, .inl (cy 0, 32, .inl (f_3))), (h9, .inl (cy 0, 32, .inl (f_4)))] H → va_D A [(h0, .inr (11, [.ref h1, .ref h2, .ref h3, .ref h4, .ref h5, .int v1, .int v2, .int v3, .int v4, .int v5, .ref h6, .int v6, .ref h7, .ref h8, .ref h9, .int 0, .int v7, .int v_5, .int v_6, .int v_7])), (h7, .inl (cy 0, 60, .inl (gi))), (h8, .inl (cy 0, 32, .inl (f_3))), (h9, .inl (cy 0, 32, .inl (f_4)))] → va_S A sT.heap H locs → ∀ (ls : Array Slot), lv_has ls 1 [(0, .ref h0)] → W pG l eN { frames := 4, cells := 0, slots := 0, locals := 92 } sT mI ([.ref h0] : List Value).toArray below meth cO H locs 0 0 (MQ below (zQv D ((q_X9_parse cy h0 h1 h2 h3 h4 h5 h6 h7 h8 h9 v1 v2 v3 v4 v5 v6 gi) (n_X9_parse v7 gi gk gn)) A) ([.ref h0] : List Value).toArray sT 0 0 A) (F0 mI 32 ls []) := by
    intro n_2
    induction n_2 with
    | zero =>
      intro f_3 f_4 v_5 v_6 v_7 hb_0_0 hb_0_1 hb_0_2 hinv_0_0 hinv_0_1 hm_0
      exact absurd hm_0 (by omega)
    | succ n_2 ih_8 =>
      intro f_3 f_4 v_5 v_6 v_7 hb_0_0 hb_0_1 hb_0_2 hinv_0_0 hinv_0_1 hm_0 hF_0 H locs hP hD hS ls hl
      have hb_0_0_ := hb_0_0.2
      have hb_0_1_ := hb_0_1.2
      refine zby (v_7 = 0) (fun c_9 => ?_) (fun c_9 => ?_)
      · rw [c_9] at hP hD
        refine lv_aload_n hX hB dX9_parse_32 rfl (lv_at hl 0 rfl) ?_
        refine z_callVi (isC := [0, 1]) (isR := [2, 3]) (isO := [2, 3, 0, 1]) (n_X9_mark_0 v7 v_5 gi) (q_X9_mark_0 cy h0 h1 h2 h3 h4 h5 h6 h7 h8 h9 v1 v2 v3 v4 v5 v6 0 v7 v_5 v_6 gi) (fun o_10 => [(h0, .inr (11, [.ref h1, .ref h2, .ref h3, .ref h4, .ref h5, .int v1, .int v2, .int v3, .int v4, .int v5, .ref h6, .int v6, .ref h7, .ref h8, .ref h9, .int 0, .int v7, .int v_5, .int v_6, .int 0])), (h7, .inl (cy 0, 60, .inl (gi))), (h8, .inl (cy 0, 32, .inl (f_3))), (h9, .inl (cy 0, 32, .inl (f_4)))]) (fun o_10 => o_10) (c_X9_mark_0 l hE D cy h0 h1 h2 h3 h4 h5 h6 h7 h8 h9 v1 v2 v3 v4 v5 v6 0 v7 v_5 v_6 gi (zle_of hb_0_0.1 (by omega) (by decide)) (zle_of hln.1 (by omega) (by decide))) hE C zs_X9_196 ⟨Nat.le_of_ble_eq_true rfl, Nat.le_of_ble_eq_true rfl⟩ hP hD hS hA hE0 ⟨rfl, rfl, rfl, by decide, rfl, rfl, rfl⟩ 0 rfl rfl rfl rfl hl.1 (Nat.le_of_ble_eq_true rfl) rfl dX9_parse_33 ⟨Nat.le_of_ble_eq_true rfl, Nat.le_of_ble_eq_true rfl⟩ (fun o_10 H locs eo_10 hP hD hS => ?_)
        refine lv_bipush (v := 59) hX hB dX9_parse_36 (by decide) ?_
        refine lv_icmp_ne (tgt := 58) hX hB dX9_parse_38 (by decide) (fun c_11 => ?_) (fun c_11 => ?_)
        · refine lv_aload_n hX hB dX9_parse_58 rfl (lv_at hl 0 rfl) ?_
          refine lv_dup hX hB dX9_parse_59 rfl ?_
          refine fg_X9_69 C hP 0 rfl rfl dX9_parse_60 ?_
          refine lv_aload_n hX hB dX9_parse_63 rfl (lv_at hl 0 rfl) ?_
          refine fg_X9_63 C hP 0 rfl rfl dX9_parse_64 ?_
          refine lv_aload_n hX hB dX9_parse_67 rfl (lv_at hl 0 rfl) ?_
          refine fg_X9_60 C hP 0 rfl rfl dX9_parse_68 ?_
          refine lv_icmp_ge (tgt := 78) hX hB dX9_parse_71 (by decide) (fun c_12 => ?_) (fun c_12 => ?_)
          · have c_12n : zn v7 ≤ zn v_5 := (zi_le_iff hln.1 hb_0_0.1 (by omega) (by omega)).mp c_12
            refine lv_iconst (v := 0) hX hB dX9_parse_78 (by decide) ?_
            refine z_ior (v := 0) C dX9_parse_79 (by decide) ?_
            refine fp_X9_69 C hP hD hS 0 rfl (zb01 (Or.inl rfl)) (zfitb (Or.inl rfl)) (Nat.le_of_ble_eq_true rfl) (w' := [(h0, .inr (11, [.ref h1, .ref h2, .ref h3, .ref h4, .ref h5, .int v1, .int v2, .int v3, .int v4, .int v5, .ref h6, .int v6, .ref h7, .ref h8, .ref h9, .int 0, .int v7, .int v_5, .int v_6, .int 0])), (h7, .inl (cy 0, 60, .inl (gi))), (h8, .inl (cy 0, 32, .inl (f_3))), (h9, .inl (cy 0, 32, .inl (f_4)))]) rfl dX9_parse_80 (fun H locs hP hD hS => ?_)
            exact z_vret' (0, v7, v_5, v_6, 0, f_3, f_4) (w' := q_X9_parse cy h0 h1 h2 h3 h4 h5 h6 h7 h8 h9 v1 v2 v3 v4 v5 v6 gi) (hF_0.symm.trans (by simp only [n_X9_parse_L1, if_pos c_9, ← eo_10, if_neg c_11, if_pos c_12])) C hRT hP hD hS (Nat.le_of_ble_eq_true rfl) (Nat.le_of_ble_eq_true rfl) rfl dX9_parse_83
          · have c_12n : ¬ (zn v7 ≤ zn v_5) := fun z => c_12 ((zi_le_iff hln.1 hb_0_0.1 (by omega) (by omega)).mpr z)
            refine lv_iconst (v := 1) hX hB dX9_parse_74 (by decide) ?_
            refine lv_goto (tgt := 79) hX hB dX9_parse_75 (by decide) ?_
            refine z_ior (v := 1) C dX9_parse_79 (by decide) ?_
            refine fp_X9_69 C hP hD hS 0 rfl (zb01 (Or.inr rfl)) (zfitb (Or.inr rfl)) (Nat.le_of_ble_eq_true rfl) (w' := [(h0, .inr (11, [.ref h1, .ref h2, .ref h3, .ref h4, .ref h5, .int v1, .int v2, .int v3, .int v4, .int v5, .ref h6, .int v6, .ref h7, .ref h8, .ref h9, .int 0, .int v7, .int v_5, .int v_6, .int 1])), (h7, .inl (cy 0, 60, .inl (gi))), (h8, .inl (cy 0, 32, .inl (f_3))), (h9, .inl (cy 0, 32, .inl (f_4)))]) rfl dX9_parse_80 (fun H locs hP hD hS => ?_)
            exact z_vret' (0, v7, v_5, v_6, 1, f_3, f_4) (w' := q_X9_parse cy h0 h1 h2 h3 h4 h5 h6 h7 h8 h9 v1 v2 v3 v4 v5 v6 gi) (hF_0.symm.trans (by simp only [n_X9_parse_L1, if_pos c_9, ← eo_10, if_neg c_11, if_neg c_12])) C hRT hP hD hS (Nat.le_of_ble_eq_true rfl) (Nat.le_of_ble_eq_true rfl) rfl dX9_parse_83
        · have hm41 : zn v_5 < zn v7 := mk0_lt hb_0_0.1 hln.1 (by omega) (by omega) (eo_10.symm.trans c_11) (by decide)
          have hm42 := hinv_0_1 c_9
          refine lv_aload_n hX hB dX9_parse_41 rfl (lv_at hl 0 rfl) ?_
          refine lv_dup hX hB dX9_parse_42 rfl ?_
          refine fg_X9_63 C hP 0 rfl rfl dX9_parse_43 ?_
          refine lv_iconst (v := 1) hX hB dX9_parse_46 (by decide) ?_
          refine z_iadd (v := nI ((zn v_5) + 1)) C dX9_parse_47 (zi_add hb_0_0.1 (zlit 1)) ?_
          refine fp_X9_63 C hP hD hS 0 rfl rfl rfl (Nat.le_of_ble_eq_true rfl) (w' := [(h0, .inr (11, [.ref h1, .ref h2, .ref h3, .ref h4, .ref h5, .int v1, .int v2, .int v3, .int v4, .int v5, .ref h6, .int v6, .ref h7, .ref h8, .ref h9, .int 0, .int v7, .int (nI ((zn v_5) + 1)), .int v_6, .int 0])), (h7, .inl (cy 0, 60, .inl (gi))), (h8, .inl (cy 0, 32, .inl (f_3))), (h9, .inl (cy 0, 32, .inl (f_4)))]) rfl dX9_parse_48 (fun H locs hP hD hS => ?_)
          refine lv_aload_n hX hB dX9_parse_51 rfl (lv_at hl 0 rfl) ?_
          refine z_callVv (isC := [0, 1, 2, 3]) (isR := []) (isO := [0, 1, 2, 3]) (n_X9_command v7 (nI ((zn v_5) + 1)) v_6 gi f_3 f_4) (q_X9_command cy h0 h1 h2 h3 h4 h5 h6 h7 h8 h9 v1 v2 v3 v4 v5 v6 0 v7 gi) (fun o_13 => [(h0, .inr (11, [.ref h1, .ref h2, .ref h3, .ref h4, .ref h5, .int v1, .int v2, .int v3, .int v4, .int v5, .ref h6, .int v6, .ref h7, .ref h8, .ref h9, .int 0, .int v7, .int o_13.1, .int o_13.2.1, .int o_13.2.2.1])), (h7, .inl (cy 0, 60, .inl (gi))), (h8, .inl (cy 0, 32, .inl (o_13.2.2.2.1))), (h9, .inl (cy 0, 32, .inl (o_13.2.2.2.2)))]) (c_X9_command l hE D cy h0 h1 h2 h3 h4 h5 h6 h7 h8 h9 v1 v2 v3 v4 v5 v6 0 v7 (nI ((zn v_5) + 1)) v_6 gi f_3 f_4 (zle_of (zi_i ((zn v_5) + 1)) (by omega) (by decide)) (zle_of hln.1 (by omega) (by decide)) (zn_le (zi_i ((zn v_5) + 1)) hln.1 (by omega) (by omega)) (zle_of hb_0_1.1 (by omega) (by decide))) hE C zs_X9_212 ⟨Nat.le_of_ble_eq_true rfl, Nat.le_of_ble_eq_true rfl⟩ hP hD hS hA hE0 ⟨rfl, rfl, rfl, by decide, rfl, rfl, rfl⟩ 0 rfl rfl rfl rfl hl.1 (Nat.le_of_ble_eq_true rfl) rfl dX9_parse_52 ⟨Nat.le_of_ble_eq_true rfl, Nat.le_of_ble_eq_true rfl⟩ (fun o_13 H locs eo_13 hP hD hS => ?_)
          have zo_13_0 : zn o_13.1 ≤ 60 := by rw [eo_13]; exact (zcm_at v7 (nI ((zn v_5) + 1)) v_6 gi f_3 f_4 (zle_of (zi_i ((zn v_5) + 1)) (by omega) (by decide)) (zle_of hln.1 (by omega) (by decide)) (zn_le (zi_i ((zn v_5) + 1)) hln.1 (by omega) (by omega)) (zle_of hb_0_1.1 (by omega) (by decide))).2
          have hzz_o_13_0 : zn (nI ((zn v_5) + 1)) = ((zn v_5) + 1) := zn_of (zi_i ((zn v_5) + 1)) (by omega)
          have hfc_o_13 : zn (nI ((zn v_5) + 1)) ≤ zn o_13.1 ∧ zn o_13.1 ≤ zn v7 ∧ zn o_13.2.1 ≤ zn v_6 + 1 ∧ (o_13.2.2.1 = 0 → zn (nI ((zn v_5) + 1)) + 2 ≤ zn o_13.1 ∧ zn o_13.2.1 = zn v_6 + 1) := by rw [eo_13]; exact zcm_f v7 (nI ((zn v_5) + 1)) v_6 gi f_3 f_4 (zle_of (zi_i ((zn v_5) + 1)) (by omega) (by decide)) (zle_of hln.1 (by omega) (by decide)) (zn_le (zi_i ((zn v_5) + 1)) hln.1 (by omega) (by omega)) (zle_of hb_0_1.1 (by omega) (by decide))
          have hfd_o_13 := hfc_o_13.2.2.2
          have zo_13_1 : zn o_13.2.1 ≤ 32 := by rw [eo_13]; exact (zcm_c v7 (nI ((zn v_5) + 1)) v_6 gi f_3 f_4 (zle_of (zi_i ((zn v_5) + 1)) (by omega) (by decide)) (zle_of hln.1 (by omega) (by decide)) (zn_le (zi_i ((zn v_5) + 1)) hln.1 (by omega) (by omega)) (zle_of hb_0_1.1 (by omega) (by decide))).2
          refine lv_goto (tgt := 32) hX hB dX9_parse_55 (by decide) ?_
          exact ih_8 o_13.2.2.2.1 o_13.2.2.2.2 o_13.1 o_13.2.1 o_13.2.2.1 (zle_of (show zi o_13.1 (zn o_13.1) from by rw [eo_13]; exact (zcm_at v7 (nI ((zn v_5) + 1)) v_6 gi f_3 f_4 (zle_of (zi_i ((zn v_5) + 1)) (by omega) (by decide)) (zle_of hln.1 (by omega) (by decide)) (zn_le (zi_i ((zn v_5) + 1)) hln.1 (by omega) (by omega)) (zle_of hb_0_1.1 (by omega) (by decide))).1) (by omega) (by decide)) (zle_of (show zi o_13.2.1 (zn o_13.2.1) from by rw [eo_13]; exact (zcm_c v7 (nI ((zn v_5) + 1)) v_6 gi f_3 f_4 (zle_of (zi_i ((zn v_5) + 1)) (by omega) (by decide)) (zle_of hln.1 (by omega) (by decide)) (zn_le (zi_i ((zn v_5) + 1)) hln.1 (by omega) (by omega)) (zle_of hb_0_1.1 (by omega) (by decide))).1) (by omega) (by decide)) (show o_13.2.2.1 = 0 ∨ o_13.2.2.1 = 1 from by rw [eo_13]; exact zcm_w v7 (nI ((zn v_5) + 1)) v_6 gi f_3 f_4 (zle_of (zi_i ((zn v_5) + 1)) (by omega) (by decide)) (zle_of hln.1 (by omega) (by decide)) (zn_le (zi_i ((zn v_5) + 1)) hln.1 (by omega) (by omega)) (zle_of hb_0_1.1 (by omega) (by decide))) (by omega) (by intro hw; have q1 := hfd_o_13 hw; have q2 := hinv_0_1 (by assumption); omega) (by omega) (Eq.trans (by simp only [n_X9_parse_L1, if_pos c_9, ← eo_10, if_pos c_11, ← eo_13]) hF_0) _ _ hP hD hS ls (lv_sub hl [0] rfl)
      · have c_9s : v_7 = 1 := (hb_0_2).resolve_left c_9
        rw [c_9s] at hP hD
        refine lv_aload_n hX hB dX9_parse_32 rfl (lv_at hl 0 rfl) ?_
        refine z_callVi (isC := [0, 1]) (isR := [2, 3]) (isO := [2, 3, 0, 1]) (()) (q_X9_mark_1 cy h0 h1 h2 h3 h4 h5 h6 h7 h8 h9 v1 v2 v3 v4 v5 v6 0 v7 v_5 v_6 gi) (fun o_14 => [(h0, .inr (11, [.ref h1, .ref h2, .ref h3, .ref h4, .ref h5, .int v1, .int v2, .int v3, .int v4, .int v5, .ref h6, .int v6, .ref h7, .ref h8, .ref h9, .int 0, .int v7, .int v_5, .int v_6, .int 1])), (h7, .inl (cy 0, 60, .inl (gi))), (h8, .inl (cy 0, 32, .inl (f_3))), (h9, .inl (cy 0, 32, .inl (f_4)))]) (fun o_14 => (-1)) (c_X9_mark_1 l hE D cy h0 h1 h2 h3 h4 h5 h6 h7 h8 h9 v1 v2 v3 v4 v5 v6 0 v7 v_5 v_6 gi ) hE C zs_X9_196 ⟨Nat.le_of_ble_eq_true rfl, Nat.le_of_ble_eq_true rfl⟩ hP hD hS hA hE0 ⟨rfl, rfl, rfl, by decide, rfl, rfl, rfl⟩ 0 rfl rfl rfl rfl hl.1 (Nat.le_of_ble_eq_true rfl) rfl dX9_parse_33 ⟨Nat.le_of_ble_eq_true rfl, Nat.le_of_ble_eq_true rfl⟩ (fun o_14 H locs eo_14 hP hD hS => ?_)
        refine lv_bipush (v := 59) hX hB dX9_parse_36 (by decide) ?_
        refine lv_icmp_ne (tgt := 58) hX hB dX9_parse_38 (by decide) (fun _ => ?_) (fun c => absurd c (by decide))
        refine lv_aload_n hX hB dX9_parse_58 rfl (lv_at hl 0 rfl) ?_
        refine lv_dup hX hB dX9_parse_59 rfl ?_
        refine fg_X9_69 C hP 0 rfl rfl dX9_parse_60 ?_
        refine lv_aload_n hX hB dX9_parse_63 rfl (lv_at hl 0 rfl) ?_
        refine fg_X9_63 C hP 0 rfl rfl dX9_parse_64 ?_
        refine lv_aload_n hX hB dX9_parse_67 rfl (lv_at hl 0 rfl) ?_
        refine fg_X9_60 C hP 0 rfl rfl dX9_parse_68 ?_
        refine lv_icmp_ge (tgt := 78) hX hB dX9_parse_71 (by decide) (fun c_15 => ?_) (fun c_15 => ?_)
        · have c_15n : zn v7 ≤ zn v_5 := (zi_le_iff hln.1 hb_0_0.1 (by omega) (by omega)).mp c_15
          refine lv_iconst (v := 0) hX hB dX9_parse_78 (by decide) ?_
          refine z_ior (v := 1) C dX9_parse_79 (by decide) ?_
          refine fp_X9_69 C hP hD hS 0 rfl (zb01 (Or.inr rfl)) (zfitb (Or.inr rfl)) (Nat.le_of_ble_eq_true rfl) (w' := [(h0, .inr (11, [.ref h1, .ref h2, .ref h3, .ref h4, .ref h5, .int v1, .int v2, .int v3, .int v4, .int v5, .ref h6, .int v6, .ref h7, .ref h8, .ref h9, .int 0, .int v7, .int v_5, .int v_6, .int 1])), (h7, .inl (cy 0, 60, .inl (gi))), (h8, .inl (cy 0, 32, .inl (f_3))), (h9, .inl (cy 0, 32, .inl (f_4)))]) rfl dX9_parse_80 (fun H locs hP hD hS => ?_)
          exact z_vret' (0, v7, v_5, v_6, 1, f_3, f_4) (w' := q_X9_parse cy h0 h1 h2 h3 h4 h5 h6 h7 h8 h9 v1 v2 v3 v4 v5 v6 gi) (hF_0.symm.trans (by simp only [n_X9_parse_L1, if_neg c_9, if_pos c_15])) C hRT hP hD hS (Nat.le_of_ble_eq_true rfl) (Nat.le_of_ble_eq_true rfl) rfl dX9_parse_83
        · have c_15n : ¬ (zn v7 ≤ zn v_5) := fun z => c_15 ((zi_le_iff hln.1 hb_0_0.1 (by omega) (by omega)).mpr z)
          refine lv_iconst (v := 1) hX hB dX9_parse_74 (by decide) ?_
          refine lv_goto (tgt := 79) hX hB dX9_parse_75 (by decide) ?_
          refine z_ior (v := 1) C dX9_parse_79 (by decide) ?_
          refine fp_X9_69 C hP hD hS 0 rfl (zb01 (Or.inr rfl)) (zfitb (Or.inr rfl)) (Nat.le_of_ble_eq_true rfl) (w' := [(h0, .inr (11, [.ref h1, .ref h2, .ref h3, .ref h4, .ref h5, .int v1, .int v2, .int v3, .int v4, .int v5, .ref h6, .int v6, .ref h7, .ref h8, .ref h9, .int 0, .int v7, .int v_5, .int v_6, .int 1])), (h7, .inl (cy 0, 60, .inl (gi))), (h8, .inl (cy 0, 32, .inl (f_3))), (h9, .inl (cy 0, 32, .inl (f_4)))]) rfl dX9_parse_80 (fun H locs hP hD hS => ?_)
          exact z_vret' (0, v7, v_5, v_6, 1, f_3, f_4) (w' := q_X9_parse cy h0 h1 h2 h3 h4 h5 h6 h7 h8 h9 v1 v2 v3 v4 v5 v6 gi) (hF_0.symm.trans (by simp only [n_X9_parse_L1, if_neg c_9, if_neg c_15])) C hRT hP hD hS (Nat.le_of_ble_eq_true rfl) (Nat.le_of_ble_eq_true rfl) rfl dX9_parse_83
  exact loop_0 62 o_1.2.2.2.1 o_1.2.2.2.2 o_1.1 o_1.2.1 o_1.2.2.1 (zle_of (show zi o_1.1 (zn o_1.1) from by rw [eo_1]; exact (zcm_at v7 0 0 gi gk gn (zle_of (zlit 0) (by omega) (by decide)) (zle_of hln.1 (by omega) (by decide)) (zn_le (zlit 0) hln.1 (by omega) (by omega)) (zle_of (zlit 0) (by omega) (by decide))).1) (by omega) (by decide)) (zle_of (show zi o_1.2.1 (zn o_1.2.1) from by rw [eo_1]; exact (zcm_c v7 0 0 gi gk gn (zle_of (zlit 0) (by omega) (by decide)) (zle_of hln.1 (by omega) (by decide)) (zn_le (zlit 0) hln.1 (by omega) (by omega)) (zle_of (zlit 0) (by omega) (by decide))).1) (by omega) (by decide)) (show o_1.2.2.1 = 0 ∨ o_1.2.2.1 = 1 from by rw [eo_1]; exact zcm_w v7 0 0 gi gk gn (zle_of (zlit 0) (by omega) (by decide)) (zle_of hln.1 (by omega) (by decide)) (zn_le (zlit 0) hln.1 (by omega) (by omega)) (zle_of (zlit 0) (by omega) (by decide))) (by omega) (by intro hw; have q1 := hfd_o_1 hw; omega) (by omega) (by simp only [n_X9_parse, ← eo_1]) _ _ hP hD hS ls hl

end M8
