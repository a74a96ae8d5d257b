section M4
def n_X9_follows_L1 : Nat → (Nat → Int32) → Nat → Nat → Int32
  | 0, f_7, _ => f_7
  | n_6 + 1, f_7, k =>
    if f_7 2 ≤ nI k then
      f_7
    else
      let o_10 := n_X9_enters f_7 (nI k) k
      n_X9_follows_L1 n_6 o_10 (k + 1)
def n_X9_follows (g : Nat → Int32) : Nat → Int32 :=
  if g (34 + (zn (g 3))) ≤ 0 then
    if g 3 = nI ((zn (g 2)) - 1) then
      if g 4 = 3 then
        n_X9_follows_L1 5 (upd g 0 0) 0
      else
        let o_5 := n_X9_beginsBall (upd (upd g 4 ((g 4) + 1)) 3 0)
        o_5
    else
      let o_3 := n_X9_beginsBall (upd (upd g 4 ((g 4) + 0)) 3 (nI ((zn (g 3)) + 1)))
      o_3
  else
    let o_11 := n_X9_beginsBall (upd g (34 + (zn (g 3))) ((g (34 + (zn (g 3)))) - 1))
    o_11
def q_X9_follows (cy : Nat → ClassId) (h0 : Nat) (h1 : Nat) (h2 : Nat) (h3 : Nat) (h4 : Nat) (h5 : Nat) (h6 : Nat) (h7 : Nat) (h8 : Nat) (h9 : Nat) (v1 : Int32) (v2 : Int32) (v3 : Int32) (v4 : Int32) (v5 : Int32) (v6 : Int32) (v7 : Int32) (v8 : Int32) (v9 : Int32) (v10 : Int32) (v11 : Int32) (o : Nat → Int32) : va_W := [(h0, .inr (11, [.ref h1, .ref h2, .ref h3, .ref h4, .ref h5, .int v1, .int v2, .int v3, .int v4, .int v5, .ref h6, .int v6, .ref h7, .ref h8, .ref h9, .int v7, .int v8, .int v9, .int v10, .int v11])), (h1, .inl (cy 0, 64, .inl (o)))]
set_option maxHeartbeats 4000000 in
set_option maxRecDepth 100000 in
theorem c_X9_follows (l : Launch) {E : zEn} (hE : zEok E) (D : zG) (cy : Nat → ClassId) (h0 h1 h2 h3 h4 h5 h6 h7 h8 h9 : Nat) (v1 : Int32) (v2 : Int32) (v3 : Int32) (v4 : Int32) (v5 : Int32) (v6 : Int32) (v7 : Int32) (v8 : Int32) (v9 : Int32) (v10 : Int32) (v11 : Int32) (g : Nat → Int32) (hc : zle (g 3) 3) (hn : zle (g 2) 4) (hn1 : 1 ≤ zn (g 2)) (hq : zle (g 13) 5) (sz : Nat) : Met l yX9_follows (zws yX9_follows cX9_follows 4 none) { frames := 2, cells := 0, slots := 0, locals := 47 } (zPre E D cy [.ref h0] [(h0, .inr (11, [.ref h1, .ref h2, .ref h3, .ref h4, .ref h5, .int v1, .int v2, .int v3, .int v4, .int v5, .ref h6, .int v6, .ref h7, .ref h8, .ref h9, .int v7, .int v8, .int v9, .int v10, .int v11])), (h1, .inl (cy 0, 64, .inl (g)))] sz) (zQv D ((q_X9_follows cy h0 h1 h2 h3 h4 h5 h6 h7 h8 h9 v1 v2 v3 v4 v5 v6 v7 v8 v9 v10 v11) (n_X9_follows g)) (va_A [(h0, .inr (11, [.ref h1, .ref h2, .ref h3, .ref h4, .ref h5, .int v1, .int v2, .int v3, .int v4, .int v5, .ref h6, .int v6, .ref h7, .ref h8, .ref h9, .int v7, .int v8, .int v9, .int v10, .int v11])), (h1, .inl (cy 0, 64, .inl (g)))] sz)) 0 0 (va_A [(h0, .inr (11, [.ref h1, .ref h2, .ref h3, .ref h4, .ref h5, .int v1, .int v2, .int v3, .int v4, .int v5, .ref h6, .int v6, .ref h7, .ref h8, .ref h9, .int v7, .int v8, .int v9, .int v10, .int v11])), (h1, .inl (cy 0, 64, .inl (g)))] sz) := by
  refine z_of (Qc := fun A => zQv D ((q_X9_follows cy h0 h1 h2 h3 h4 h5 h6 h7 h8 h9 v1 v2 v3 v4 v5 v6 v7 v8 v9 v10 v11) (n_X9_follows g)) A) (by decide +kernel) (Nat.le_of_ble_eq_true rfl) rfl ?_
  intro pG eN sT mI below meth cO A ls C hRT hnm hA hP hD hS hE0 hl
  have hX := C.x
  have hB := C.b
  have hc_ := hc.2
  have hn_ := hn.2
  have hq_ := hq.2
  refine lv_aload_n hX hB dX9_follows_0 rfl (lv_at hl 0 rfl) ?_
  refine fg_X9_7 C hP 0 rfl rfl dX9_follows_1 ?_
  refine lv_iconst (v := 3) hX hB dX9_follows_4 (by decide) ?_
  refine z_iald C hP 1 rfl (k := 3) (zlit 3) (by decide) (by decide) (v := g 3) rfl dX9_follows_5 ?_
  refine lv_istore_n (lv' := [(1, .int (g 3)), (0, .ref h0)]) hX hB dX9_follows_6 rfl hl (by decide) rfl (fun ls hl => ?_)
  refine lv_aload_n hX hB dX9_follows_7 rfl (lv_at hl 1 rfl) ?_
  refine fg_X9_7 C hP 0 rfl rfl dX9_follows_8 ?_
  refine lv_bipush (v := 34) hX hB dX9_follows_11 (by decide) ?_
  refine lv_iload_n hX hB dX9_follows_13 rfl (lv_at hl 0 rfl) ?_
  refine z_iadd (v := nI (34 + (zn (g 3)))) C dX9_follows_14 (zi_add (zlit 34) hc.1) ?_
  refine z_iald C hP 1 rfl (k := 34 + (zn (g 3))) (zi_i (34 + (zn (g 3)))) (by omega) (by decide) (v := g (34 + (zn (g 3)))) rfl dX9_follows_15 ?_
  refine lv_if_le (tgt := 37) hX hB dX9_follows_16 (by decide) (fun c_1 => ?_) (fun c_1 => ?_)
  · refine lv_iload_n hX hB dX9_follows_37 rfl (lv_at hl 0 rfl) ?_
    refine lv_aload_n hX hB dX9_follows_38 rfl (lv_at hl 1 rfl) ?_
    refine fg_X9_7 C hP 0 rfl rfl dX9_follows_39 ?_
    refine lv_iconst (v := 2) hX hB dX9_follows_42 (by decide) ?_
    refine z_iald C hP 1 rfl (k := 2) (zlit 2) (by decide) (by decide) (v := g 2) rfl dX9_follows_43 ?_
    refine lv_iconst (v := 1) hX hB dX9_follows_44 (by decide) ?_
    refine z_isub (v := nI ((zn (g 2)) - 1)) C dX9_follows_45 (zi_sub hn.1 (zlit 1) (by omega)) ?_
    refine lv_icmp_ne (tgt := 53) hX hB dX9_follows_46 (by decide) (fun c_2 => ?_) (fun c_2 => ?_)
    · have c_2n : ¬ (zn (g 3) = (zn (g 2)) - 1) := fun z => c_2 ((zi_eq_iff hc.1 (zi_i ((zn (g 2)) - 1)) (by omega) (by omega)).mpr z)
      refine lv_iconst (v := 0) hX hB dX9_follows_53 (by decide) ?_
      refine lv_istore_n (lv' := [(2, .int 0), (1, .int (g 3)), (0, .ref h0)]) hX hB dX9_follows_54 rfl hl (by decide) rfl (fun ls hl => ?_)
      refine lv_iload_n hX hB dX9_follows_55 rfl (lv_at hl 0 rfl) ?_
      refine lv_if_eq (tgt := 100) hX hB dX9_follows_56 (by decide) (fun _ => ?_) (fun c => absurd (by decide) c)
      refine lv_aload_n hX hB dX9_follows_100 rfl (lv_at hl 2 rfl) ?_
      refine fg_X9_7 C hP 0 rfl rfl dX9_follows_101 ?_
      refine lv_iconst (v := 4) hX hB dX9_follows_104 (by decide) ?_
      refine lv_dup2_11 hX hB dX9_follows_105 rfl rfl ?_
      refine z_iald C hP 1 rfl (k := 4) (zlit 4) (by decide) (by decide) (v := g 4) rfl dX9_follows_106 ?_
      refine lv_iload_n hX hB dX9_follows_107 rfl (lv_at hl 0 rfl) ?_
      refine lv_if_eq (tgt := 115) hX hB dX9_follows_108 (by decide) (fun _ => ?_) (fun c => absurd (by decide) c)
      refine lv_iconst (v := 0) hX hB dX9_follows_115 (by decide) ?_
      refine z_iadd (v := (g 4) + 0) C dX9_follows_116 rfl ?_
      refine z_iast C hP hD hS 1 rfl (k := 4) (zlit 4) (by decide) (by decide) (w' := [(h0, .inr (11, [.ref h1, .ref h2, .ref h3, .ref h4, .ref h5, .int v1, .int v2, .int v3, .int v4, .int v5, .ref h6, .int v6, .ref h7, .ref h8, .ref h9, .int v7, .int v8, .int v9, .int v10, .int v11])), (h1, .inl (cy 0, 64, .inl (upd g 4 ((g 4) + 0))))]) rfl dX9_follows_117 (fun H locs hP hD hS => ?_)
      refine lv_aload_n hX hB dX9_follows_118 rfl (lv_at hl 2 rfl) ?_
      refine fg_X9_7 C hP 0 rfl rfl dX9_follows_119 ?_
      refine lv_iconst (v := 3) hX hB dX9_follows_122 (by decide) ?_
      refine lv_iload_n hX hB dX9_follows_123 rfl (lv_at hl 0 rfl) ?_
      refine lv_if_eq (tgt := 131) hX hB dX9_follows_124 (by decide) (fun _ => ?_) (fun c => absurd (by decide) c)
      refine lv_iload_n hX hB dX9_follows_131 rfl (lv_at hl 1 rfl) ?_
      refine lv_iconst (v := 1) hX hB dX9_follows_132 (by decide) ?_
      refine z_iadd (v := nI ((zn (g 3)) + 1)) C dX9_follows_133 (zi_add hc.1 (zlit 1)) ?_
      refine z_iast C hP hD hS 1 rfl (k := 3) (zlit 3) (by decide) (by decide) (w' := [(h0, .inr (11, [.ref h1, .ref h2, .ref h3, .ref h4, .ref h5, .int v1, .int v2, .int v3, .int v4, .int v5, .ref h6, .int v6, .ref h7, .ref h8, .ref h9, .int v7, .int v8, .int v9, .int v10, .int v11])), (h1, .inl (cy 0, 64, .inl (upd (upd g 4 ((g 4) + 0)) 3 (nI ((zn (g 3)) + 1)))))]) rfl dX9_follows_134 (fun H locs hP hD hS => ?_)
      refine lv_aload_n hX hB dX9_follows_135 rfl (lv_at hl 2 rfl) ?_
      refine z_callVv (isC := [0, 1]) (isR := []) (isO := [0, 1]) (n_X9_beginsBall (upd (upd g 4 ((g 4) + 0)) 3 (nI ((zn (g 3)) + 1)))) (q_X9_beginsBall cy h0 h1 h2 h3 h4 h5 h6 h7 h8 h9 v1 v2 v3 v4 v5 v6 v7 v8 v9 v10 v11) (fun o_3 => [(h0, .inr (11, [.ref h1, .ref h2, .ref h3, .ref h4, .ref h5, .int v1, .int v2, .int v3, .int v4, .int v5, .ref h6, .int v6, .ref h7, .ref h8, .ref h9, .int v7, .int v8, .int v9, .int v10, .int v11])), (h1, .inl (cy 0, 64, .inl (o_3)))]) (c_X9_beginsBall l hE D cy h0 h1 h2 h3 h4 h5 h6 h7 h8 h9 v1 v2 v3 v4 v5 v6 v7 v8 v9 v10 v11 (upd (upd g 4 ((g 4) + 0)) 3 (nI ((zn (g 3)) + 1))) ) hE C zs_X9_97 ⟨Nat.le_of_ble_eq_true rfl, Nat.le_of_ble_eq_true rfl⟩ hP hD hS hA hE0 ⟨rfl, rfl, rfl, by decide, rfl, rfl, rfl⟩ 0 rfl rfl rfl rfl hl.1 (Nat.le_of_ble_eq_true rfl) rfl dX9_follows_136 ⟨Nat.le_of_ble_eq_true rfl, Nat.le_of_ble_eq_true rfl⟩ (fun o_3 H locs eo_3 hP hD hS => ?_)
      exact z_vret' o_3 (w' := q_X9_follows cy h0 h1 h2 h3 h4 h5 h6 h7 h8 h9 v1 v2 v3 v4 v5 v6 v7 v8 v9 v10 v11) (by simp only [n_X9_follows, if_pos c_1, if_neg c_2, ← eo_3]) C hRT hP hD hS (Nat.le_of_ble_eq_true rfl) (Nat.le_of_ble_eq_true rfl) rfl dX9_follows_139
    · have c_2n : zn (g 3) = (zn (g 2)) - 1 := (zi_eq_iff hc.1 (zi_i ((zn (g 2)) - 1)) (by omega) (by omega)).mp c_2
      refine lv_iconst (v := 1) hX hB dX9_follows_49 (by decide) ?_
      refine lv_goto (tgt := 54) hX hB dX9_follows_50 (by decide) ?_
      refine lv_istore_n (lv' := [(2, .int 1), (1, .int (g 3)), (0, .ref h0)]) hX hB dX9_follows_54 rfl hl (by decide) rfl (fun ls hl => ?_)
      refine lv_iload_n hX hB dX9_follows_55 rfl (lv_at hl 0 rfl) ?_
      refine lv_if_eq (tgt := 100) hX hB dX9_follows_56 (by decide) (fun c => absurd c (by decide)) (fun _ => ?_)
      refine lv_aload_n hX hB dX9_follows_59 rfl (lv_at hl 2 rfl) ?_
      refine fg_X9_7 C hP 0 rfl rfl dX9_follows_60 ?_
      refine lv_iconst (v := 4) hX hB dX9_follows_63 (by decide) ?_
      refine z_iald C hP 1 rfl (k := 4) (zlit 4) (by decide) (by decide) (v := g 4) rfl dX9_follows_64 ?_
      refine lv_iconst (v := 3) hX hB dX9_follows_65 (by decide) ?_
      refine lv_icmp_ne (tgt := 100) hX hB dX9_follows_66 (by decide) (fun c_4 => ?_) (fun c_4 => ?_)
      · refine lv_aload_n hX hB dX9_follows_100 rfl (lv_at hl 2 rfl) ?_
        refine fg_X9_7 C hP 0 rfl rfl dX9_follows_101 ?_
        refine lv_iconst (v := 4) hX hB dX9_follows_104 (by decide) ?_
        refine lv_dup2_11 hX hB dX9_follows_105 rfl rfl ?_
        refine z_iald C hP 1 rfl (k := 4) (zlit 4) (by decide) (by decide) (v := g 4) rfl dX9_follows_106 ?_
        refine lv_iload_n hX hB dX9_follows_107 rfl (lv_at hl 0 rfl) ?_
        refine lv_if_eq (tgt := 115) hX hB dX9_follows_108 (by decide) (fun c => absurd c (by decide)) (fun _ => ?_)
        refine lv_iconst (v := 1) hX hB dX9_follows_111 (by decide) ?_
        refine lv_goto (tgt := 116) hX hB dX9_follows_112 (by decide) ?_
        refine z_iadd (v := (g 4) + 1) C dX9_follows_116 rfl ?_
        refine z_iast C hP hD hS 1 rfl (k := 4) (zlit 4) (by decide) (by decide) (w' := [(h0, .inr (11, [.ref h1, .ref h2, .ref h3, .ref h4, .ref h5, .int v1, .int v2, .int v3, .int v4, .int v5, .ref h6, .int v6, .ref h7, .ref h8, .ref h9, .int v7, .int v8, .int v9, .int v10, .int v11])), (h1, .inl (cy 0, 64, .inl (upd g 4 ((g 4) + 1))))]) rfl dX9_follows_117 (fun H locs hP hD hS => ?_)
        refine lv_aload_n hX hB dX9_follows_118 rfl (lv_at hl 2 rfl) ?_
        refine fg_X9_7 C hP 0 rfl rfl dX9_follows_119 ?_
        refine lv_iconst (v := 3) hX hB dX9_follows_122 (by decide) ?_
        refine lv_iload_n hX hB dX9_follows_123 rfl (lv_at hl 0 rfl) ?_
        refine lv_if_eq (tgt := 131) hX hB dX9_follows_124 (by decide) (fun c => absurd c (by decide)) (fun _ => ?_)
        refine lv_iconst (v := 0) hX hB dX9_follows_127 (by decide) ?_
        refine lv_goto (tgt := 134) hX hB dX9_follows_128 (by decide) ?_
        refine z_iast C hP hD hS 1 rfl (k := 3) (zlit 3) (by decide) (by decide) (w' := [(h0, .inr (11, [.ref h1, .ref h2, .ref h3, .ref h4, .ref h5, .int v1, .int v2, .int v3, .int v4, .int v5, .ref h6, .int v6, .ref h7, .ref h8, .ref h9, .int v7, .int v8, .int v9, .int v10, .int v11])), (h1, .inl (cy 0, 64, .inl (upd (upd g 4 ((g 4) + 1)) 3 0)))]) rfl dX9_follows_134 (fun H locs hP hD hS => ?_)
        refine lv_aload_n hX hB dX9_follows_135 rfl (lv_at hl 2 rfl) ?_
        refine z_callVv (isC := [0, 1]) (isR := []) (isO := [0, 1]) (n_X9_beginsBall (upd (upd g 4 ((g 4) + 1)) 3 0)) (q_X9_beginsBall cy h0 h1 h2 h3 h4 h5 h6 h7 h8 h9 v1 v2 v3 v4 v5 v6 v7 v8 v9 v10 v11) (fun o_5 => [(h0, .inr (11, [.ref h1, .ref h2, .ref h3, .ref h4, .ref h5, .int v1, .int v2, .int v3, .int v4, .int v5, .ref h6, .int v6, .ref h7, .ref h8, .ref h9, .int v7, .int v8, .int v9, .int v10, .int v11])), (h1, .inl (cy 0, 64, .inl (o_5)))]) (c_X9_beginsBall l hE D cy h0 h1 h2 h3 h4 h5 h6 h7 h8 h9 v1 v2 v3 v4 v5 v6 v7 v8 v9 v10 v11 (upd (upd g 4 ((g 4) + 1)) 3 0) ) hE C zs_X9_97 ⟨Nat.le_of_ble_eq_true rfl, Nat.le_of_ble_eq_true rfl⟩ hP hD hS hA hE0 ⟨rfl, rfl, rfl, by decide, rfl, rfl, rfl⟩ 0 rfl rfl rfl rfl hl.1 (Nat.le_of_ble_eq_true rfl) rfl dX9_follows_136 ⟨Nat.le_of_ble_eq_true rfl, Nat.le_of_ble_eq_true rfl⟩ (fun o_5 H locs eo_5 hP hD hS => ?_)
        exact z_vret' o_5 (w' := q_X9_follows cy h0 h1 h2 h3 h4 h5 h6 h7 h8 h9 v1 v2 v3 v4 v5 v6 v7 v8 v9 v10 v11) (by simp only [n_X9_follows, if_pos c_1, if_pos c_2, if_neg c_4, ← eo_5]) C hRT hP hD hS (Nat.le_of_ble_eq_true rfl) (Nat.le_of_ble_eq_true rfl) rfl dX9_follows_139
      · refine lv_aload_n hX hB dX9_follows_69 rfl (lv_at hl 2 rfl) ?_
        refine fg_X9_7 C hP 0 rfl rfl dX9_follows_70 ?_
        refine lv_iconst (v := 0) hX hB dX9_follows_73 (by decide) ?_
        refine lv_iconst (v := 0) hX hB dX9_follows_74 (by decide) ?_
        refine z_iast C hP hD hS 1 rfl (k := 0) (zlit 0) (by decide) (by decide) (w' := [(h0, .inr (11, [.ref h1, .ref h2, .ref h3, .ref h4, .ref h5, .int v1, .int v2, .int v3, .int v4, .int v5, .ref h6, .int v6, .ref h7, .ref h8, .ref h9, .int v7, .int v8, .int v9, .int v10, .int v11])), (h1, .inl (cy 0, 64, .inl (upd g 0 0)))]) rfl dX9_follows_75 (fun H locs hP hD hS => ?_)
        refine lv_iconst (v := 0) hX hB dX9_follows_76 (by decide) ?_
        refine lv_istore_n (lv' := [(3, .int 0), (2, .int 1), (1, .int (g 3)), (0, .ref h0)]) hX hB dX9_follows_77 rfl hl (by decide) rfl (fun ls hl => ?_)
        have loop_0 : ∀ (n_6 : Nat) (f_7 : Nat → Int32) (k : Nat), (k ≤ 4) → (f_7 2 = g 2) → (zle (f_7 13) 5) → zn (g 2) - k < n_6 → n_X9_follows_L1 n_6 f_7 k = n_X9_follows g → ∀ (H : Heap) (locs : List Loc), va_P D vwCl [(h0, .inr (11, [.ref h1, .ref h2, .ref h3, .ref h4, .ref h5, .int v1, .int v2, .int v3, .int v4, .int v5, .ref h6, .int v6, .ref h7, .ref h8, .ref h9, .int v7, .int v8, .int v9, .int v10, .int v11])), (h1, .inl (cy 0, 64, .inl (f_7)))] H → va_D A [(h0, .inr (11, [.ref h1, .ref h2, .ref h3, .ref h4, .ref h5, .int v1, .int v2, .int v3, .int v4, .int v5, .ref h6, .int v6, .ref h7, .ref h8, .ref h9, .int v7, .int v8, .int v9, .int v10, .int v11])), (h1, .inl (cy 0, 64, .inl (f_7)))] → va_S A sT.heap H locs → ∀ (ls : Array Slot), lv_has ls 4 [(3, .int (nI k)), (2, .int 1), (1, .int (g 3)), (0, .ref h0)] → W pG l eN { frames := 2, cells := 0, slots := 0, locals := 47 } sT mI ([.ref h0] : List Value).toArray below meth cO H locs 0 0 (MQ below (zQv D ((q_X9_follows cy h0 h1 h2 h3 h4 h5 h6 h7 h8 h9 v1 v2 v3 v4 v5 v6 v7 v8 v9 v10 v11) (n_X9_follows g)) A) ([.ref h0] : List Value).toArray sT 0 0 A) (F0 mI 78 ls []) := by
          intro n_6
          induction n_6 with
          | zero =>
            intro f_7 k hb_0_0 hinv_0_0 hinv_0_1 hm_0
            exact absurd hm_0 (by omega)
          | succ n_6 ih_8 =>
            intro f_7 k hb_0_0 hinv_0_0 hinv_0_1 hm_0 hF_0 H locs hP hD hS ls hl
            have hinv_0_1_ := hinv_0_1.2
            refine lv_iload_n hX hB dX9_follows_78 rfl (lv_at hl 0 rfl) ?_
            refine lv_aload_n hX hB dX9_follows_79 rfl (lv_at hl 3 rfl) ?_
            refine fg_X9_7 C hP 0 rfl rfl dX9_follows_80 ?_
            refine lv_iconst (v := 2) hX hB dX9_follows_83 (by decide) ?_
            refine z_iald C hP 1 rfl (k := 2) (zlit 2) (by decide) (by decide) (v := f_7 2) rfl dX9_follows_84 ?_
            refine lv_icmp_ge (tgt := 99) hX hB dX9_follows_85 (by decide) (fun c_9 => ?_) (fun c_9 => ?_)
            · have c_9n : zn (g 2) ≤ k := (zi_le_iff (zi_tr hinv_0_0 hn.1) (zi_i k) (by omega) (by omega)).mp c_9
              exact z_vret' f_7 (w' := q_X9_follows cy h0 h1 h2 h3 h4 h5 h6 h7 h8 h9 v1 v2 v3 v4 v5 v6 v7 v8 v9 v10 v11) (hF_0.symm.trans (by simp only [n_X9_follows_L1, if_pos c_9])) C hRT hP hD hS (Nat.le_of_ble_eq_true rfl) (Nat.le_of_ble_eq_true rfl) rfl dX9_follows_99
            · have c_9n : ¬ (zn (g 2) ≤ k) := fun z => c_9 ((zi_le_iff (zi_tr hinv_0_0 hn.1) (zi_i k) (by omega) (by omega)).mpr z)
              refine lv_aload_n hX hB dX9_follows_88 rfl (lv_at hl 3 rfl) ?_
              refine lv_iload_n hX hB dX9_follows_89 rfl (lv_at hl 0 rfl) ?_
              refine z_callVv (isC := [0, 1]) (isR := []) (isO := [0, 1]) (n_X9_enters f_7 (nI k) k) (q_X9_enters cy h0 h1 h2 h3 h4 h5 h6 h7 h8 h9 v1 v2 v3 v4 v5 v6 v7 v8 v9 v10 v11) (fun o_10 => [(h0, .inr (11, [.ref h1, .ref h2, .ref h3, .ref h4, .ref h5, .int v1, .int v2, .int v3, .int v4, .int v5, .ref h6, .int v6, .ref h7, .ref h8, .ref h9, .int v7, .int v8, .int v9, .int v10, .int v11])), (h1, .inl (cy 0, 64, .inl (o_10)))]) (c_X9_enters l hE D cy h0 h1 h2 h3 h4 h5 h6 h7 h8 h9 v1 v2 v3 v4 v5 v6 v7 v8 v9 v10 v11 f_7 (nI k) k (zi_i k) (by omega) (zle_of (zi_tr rfl hinv_0_1.1) (by omega) (by decide))) hE C zs_X9_153 ⟨Nat.le_of_ble_eq_true rfl, Nat.le_of_ble_eq_true rfl⟩ hP hD hS hA hE0 ⟨rfl, rfl, rfl, by decide, rfl, rfl, rfl⟩ 0 rfl rfl rfl rfl hl.1 (Nat.le_of_ble_eq_true rfl) rfl dX9_follows_90 ⟨Nat.le_of_ble_eq_true rfl, Nat.le_of_ble_eq_true rfl⟩ (fun o_10 H locs eo_10 hP hD hS => ?_)
              refine lv_iinc (v := nI (k + 1)) (lv' := [(3, .int (nI (k + 1))), (2, .int 1), (1, .int (g 3)), (0, .ref h0)]) hX hB dX9_follows_93 hl (k := 0) rfl (zi_add (zi_i k) (zlit 1)) (by decide) rfl (fun ls hl => ?_)
              refine lv_goto (tgt := 78) hX hB dX9_follows_96 (by decide) ?_
              exact ih_8 o_10 (k + 1) (by omega) (by rw [eo_10, k_X9_enters _ _ _ _ (by decide)]; exact hinv_0_0) (by rw [eo_10]; exact v_X9_enters _ _ _ hinv_0_1) (by omega) (Eq.trans (by simp only [n_X9_follows_L1, if_neg c_9, ← eo_10]) hF_0) _ _ hP hD hS ls (lv_sub hl [0, 1, 2, 3] rfl)
        exact loop_0 5 (upd g 0 0) 0 (by omega) (by exact pk_un (by decide)) (by rw [pk_un (show (13 : Nat) ≠ 0 by decide)]; exact hq) (by omega) (by simp only [n_X9_follows, if_pos c_1, if_pos c_2, if_pos c_4]) _ _ hP hD hS ls hl
  · refine lv_aload_n hX hB dX9_follows_19 rfl (lv_at hl 1 rfl) ?_
    refine fg_X9_7 C hP 0 rfl rfl dX9_follows_20 ?_
    refine lv_bipush (v := 34) hX hB dX9_follows_23 (by decide) ?_
    refine lv_iload_n hX hB dX9_follows_25 rfl (lv_at hl 0 rfl) ?_
    refine z_iadd (v := nI (34 + (zn (g 3)))) C dX9_follows_26 (zi_add (zlit 34) hc.1) ?_
    refine lv_dup2_11 hX hB dX9_follows_27 rfl rfl ?_
    refine z_iald C hP 1 rfl (k := 34 + (zn (g 3))) (zi_i (34 + (zn (g 3)))) (by omega) (by decide) (v := g (34 + (zn (g 3)))) rfl dX9_follows_28 ?_
    refine lv_iconst (v := 1) hX hB dX9_follows_29 (by decide) ?_
    refine z_isub (v := (g (34 + (zn (g 3)))) - 1) C dX9_follows_30 rfl ?_
    refine z_iast C hP hD hS 1 rfl (k := 34 + (zn (g 3))) (zi_i (34 + (zn (g 3)))) (by omega) (by decide) (w' := [(h0, .inr (11, [.ref h1, .ref h2, .ref h3, .ref h4, .ref h5, .int v1, .int v2, .int v3, .int v4, .int v5, .ref h6, .int v6, .ref h7, .ref h8, .ref h9, .int v7, .int v8, .int v9, .int v10, .int v11])), (h1, .inl (cy 0, 64, .inl (upd g (34 + (zn (g 3))) ((g (34 + (zn (g 3)))) - 1))))]) rfl dX9_follows_31 (fun H locs hP hD hS => ?_)
    refine lv_aload_n hX hB dX9_follows_32 rfl (lv_at hl 1 rfl) ?_
    refine z_callVv (isC := [0, 1]) (isR := []) (isO := [0, 1]) (n_X9_beginsBall (upd g (34 + (zn (g 3))) ((g (34 + (zn (g 3)))) - 1))) (q_X9_beginsBall cy h0 h1 h2 h3 h4 h5 h6 h7 h8 h9 v1 v2 v3 v4 v5 v6 v7 v8 v9 v10 v11) (fun o_11 => [(h0, .inr (11, [.ref h1, .ref h2, .ref h3, .ref h4, .ref h5, .int v1, .int v2, .int v3, .int v4, .int v5, .ref h6, .int v6, .ref h7, .ref h8, .ref h9, .int v7, .int v8, .int v9, .int v10, .int v11])), (h1, .inl (cy 0, 64, .inl (o_11)))]) (c_X9_beginsBall l hE D cy h0 h1 h2 h3 h4 h5 h6 h7 h8 h9 v1 v2 v3 v4 v5 v6 v7 v8 v9 v10 v11 (upd g (34 + (zn (g 3))) ((g (34 + (zn (g 3)))) - 1)) ) hE C zs_X9_97 ⟨Nat.le_of_ble_eq_true rfl, Nat.le_of_ble_eq_true rfl⟩ hP hD hS hA hE0 ⟨rfl, rfl, rfl, by decide, rfl, rfl, rfl⟩ 0 rfl rfl rfl rfl hl.1 (Nat.le_of_ble_eq_true rfl) rfl dX9_follows_33 ⟨Nat.le_of_ble_eq_true rfl, Nat.le_of_ble_eq_true rfl⟩ (fun o_11 H locs eo_11 hP hD hS => ?_)
    exact z_vret' o_11 (w' := q_X9_follows cy h0 h1 h2 h3 h4 h5 h6 h7 h8 h9 v1 v2 v3 v4 v5 v6 v7 v8 v9 v10 v11) (by simp only [n_X9_follows, if_neg c_1, ← eo_11]) C hRT hP hD hS (Nat.le_of_ble_eq_true rfl) (Nat.le_of_ble_eq_true rfl) rfl dX9_follows_36

def n_X9_drains (g : Nat → Int32) : Int32 × (Nat → Int32) :=
  let o_1 := n_X9_isSaver g
  if o_1 = 0 then
    let o_3 := n_X9_isTilt (upd g 14 ((g 14) + 1))
    if o_3 = 0 then
      let o_5 := n_X9_scores (upd g 14 ((g 14) + 1)) 3 (100 * (g 7))
      let o_6 := n_X9_follows o_5.2
      (o_5.1, o_6)
    else
      let o_7 := n_X9_follows (upd g 14 ((g 14) + 1))
      (0, o_7)
  else
    (0, upd g 12 1)
def q_X9_drains (cy : Nat → ClassId) (h0 : Nat) (h1 : Nat) (h2 : Nat) (h3 : Nat) (h4 : Nat) (h5 : Nat) (h6 : Nat) (h7 : Nat) (h8 : Nat) (h9 : Nat) (v1 : Int32) (v2 : Int32) (v3 : Int32) (v4 : Int32) (v5 : Int32) (v6 : Int32) (v7 : Int32) (v8 : Int32) (v9 : Int32) (v10 : Int32) (v11 : Int32) (o : Int32 × (Nat → Int32)) : va_W := [(h0, .inr (11, [.ref h1, .ref h2, .ref h3, .ref h4, .ref h5, .int v1, .int v2, .int v3, .int v4, .int v5, .ref h6, .int v6, .ref h7, .ref h8, .ref h9, .int v7, .int v8, .int v9, .int v10, .int v11])), (h1, .inl (cy 0, 64, .inl (o.2)))]
set_option maxHeartbeats 4000000 in
set_option maxRecDepth 100000 in
theorem c_X9_drains (l : Launch) {E : zEn} (hE : zEok E) (D : zG) (cy : Nat → ClassId) (h0 h1 h2 h3 h4 h5 h6 h7 h8 h9 : Nat) (v1 : Int32) (v2 : Int32) (v3 : Int32) (v4 : Int32) (v5 : Int32) (v6 : Int32) (v7 : Int32) (v8 : Int32) (v9 : Int32) (v10 : Int32) (v11 : Int32) (g : Nat → Int32) (hc : zle (g 3) 3) (hn : zle (g 2) 4) (hn1 : 1 ≤ zn (g 2)) (hq : zle (g 13) 5) (sz : Nat) : Met l yX9_drains (zws yX9_drains cX9_drains 2 (some .int)) { frames := 3, cells := 0, slots := 0, locals := 70 } (zPre E D cy [.ref h0] [(h0, .inr (11, [.ref h1, .ref h2, .ref h3, .ref h4, .ref h5, .int v1, .int v2, .int v3, .int v4, .int v5, .ref h6, .int v6, .ref h7, .ref h8, .ref h9, .int v7, .int v8, .int v9, .int v10, .int v11])), (h1, .inl (cy 0, 64, .inl (g)))] sz) (zQi D ((q_X9_drains cy h0 h1 h2 h3 h4 h5 h6 h7 h8 h9 v1 v2 v3 v4 v5 v6 v7 v8 v9 v10 v11) (n_X9_drains g)) (va_A [(h0, .inr (11, [.ref h1, .ref h2, .ref h3, .ref h4, .ref h5, .int v1, .int v2, .int v3, .int v4, .int v5, .ref h6, .int v6, .ref h7, .ref h8, .ref h9, .int v7, .int v8, .int v9, .int v10, .int v11])), (h1, .inl (cy 0, 64, .inl (g)))] sz) ((n_X9_drains g).1)) 0 0 (va_A [(h0, .inr (11, [.ref h1, .ref h2, .ref h3, .ref h4, .ref h5, .int v1, .int v2, .int v3, .int v4, .int v5, .ref h6, .int v6, .ref h7, .ref h8, .ref h9, .int v7, .int v8, .int v9, .int v10, .int v11])), (h1, .inl (cy 0, 64, .inl (g)))] sz) := by
  refine z_of (Qc := fun A => zQi D ((q_X9_drains cy h0 h1 h2 h3 h4 h5 h6 h7 h8 h9 v1 v2 v3 v4 v5 v6 v7 v8 v9 v10 v11) (n_X9_drains g)) A ((n_X9_drains g).1)) (by decide +kernel) (Nat.le_of_ble_eq_true rfl) rfl ?_
  intro pG eN sT mI below meth cO A ls C hRT hnm hA hP hD hS hE0 hl
  have hX := C.x
  have hB := C.b
  have hc_ := hc.2
  have hn_ := hn.2
  have hq_ := hq.2
  refine lv_aload_n hX hB dX9_drains_0 rfl (lv_at hl 0 rfl) ?_
  refine z_callVi (isC := [0, 1]) (isR := []) (isO := [0, 1]) (n_X9_isSaver g) (q_X9_isSaver cy h0 h1 h2 h3 h4 h5 h6 h7 h8 h9 v1 v2 v3 v4 v5 v6 v7 v8 v9 v10 v11 g) (fun o_1 => [(h0, .inr (11, [.ref h1, .ref h2, .ref h3, .ref h4, .ref h5, .int v1, .int v2, .int v3, .int v4, .int v5, .ref h6, .int v6, .ref h7, .ref h8, .ref h9, .int v7, .int v8, .int v9, .int v10, .int v11])), (h1, .inl (cy 0, 64, .inl (g)))]) (fun o_1 => o_1) (c_X9_isSaver l hE D cy h0 h1 h2 h3 h4 h5 h6 h7 h8 h9 v1 v2 v3 v4 v5 v6 v7 v8 v9 v10 v11 g ) hE C zs_X9_156 ⟨Nat.le_of_ble_eq_true rfl, Nat.le_of_ble_eq_true rfl⟩ hP hD hS hA hE0 ⟨rfl, rfl, rfl, by decide, rfl, rfl, rfl⟩ 0 rfl rfl rfl rfl hl.1 (Nat.le_of_ble_eq_true rfl) rfl dX9_drains_1 ⟨Nat.le_of_ble_eq_true rfl, Nat.le_of_ble_eq_true rfl⟩ (fun o_1 H locs eo_1 hP hD hS => ?_)
  refine lv_if_eq (tgt := 17) hX hB dX9_drains_4 (by decide) (fun c_2 => ?_) (fun c_2 => ?_)
  · refine lv_aload_n hX hB dX9_drains_17 rfl (lv_at hl 0 rfl) ?_
    refine fg_X9_7 C hP 0 rfl rfl dX9_drains_18 ?_
    refine lv_bipush (v := 14) hX hB dX9_drains_21 (by decide) ?_
    refine lv_dup2_11 hX hB dX9_drains_23 rfl rfl ?_
    refine z_iald C hP 1 rfl (k := 14) (zlit 14) (by decide) (by decide) (v := g 14) rfl dX9_drains_24 ?_
    refine lv_iconst (v := 1) hX hB dX9_drains_25 (by decide) ?_
    refine z_iadd (v := (g 14) + 1) C dX9_drains_26 rfl ?_
    refine z_iast C hP hD hS 1 rfl (k := 14) (zlit 14) (by decide) (by decide) (w' := [(h0, .inr (11, [.ref h1, .ref h2, .ref h3, .ref h4, .ref h5, .int v1, .int v2, .int v3, .int v4, .int v5, .ref h6, .int v6, .ref h7, .ref h8, .ref h9, .int v7, .int v8, .int v9, .int v10, .int v11])), (h1, .inl (cy 0, 64, .inl (upd g 14 ((g 14) + 1))))]) rfl dX9_drains_27 (fun H locs hP hD hS => ?_)
    refine lv_aload_n hX hB dX9_drains_28 rfl (lv_at hl 0 rfl) ?_
    refine z_callVi (isC := [0, 1]) (isR := []) (isO := [0, 1]) (n_X9_isTilt (upd g 14 ((g 14) + 1))) (q_X9_isTilt cy h0 h1 h2 h3 h4 h5 h6 h7 h8 h9 v1 v2 v3 v4 v5 v6 v7 v8 v9 v10 v11 (upd g 14 ((g 14) + 1))) (fun o_3 => [(h0, .inr (11, [.ref h1, .ref h2, .ref h3, .ref h4, .ref h5, .int v1, .int v2, .int v3, .int v4, .int v5, .ref h6, .int v6, .ref h7, .ref h8, .ref h9, .int v7, .int v8, .int v9, .int v10, .int v11])), (h1, .inl (cy 0, 64, .inl (upd g 14 ((g 14) + 1))))]) (fun o_3 => o_3) (c_X9_isTilt l hE D cy h0 h1 h2 h3 h4 h5 h6 h7 h8 h9 v1 v2 v3 v4 v5 v6 v7 v8 v9 v10 v11 (upd g 14 ((g 14) + 1)) ) hE C zs_X9_113 ⟨Nat.le_of_ble_eq_true rfl, Nat.le_of_ble_eq_true rfl⟩ hP hD hS hA hE0 ⟨rfl, rfl, rfl, by decide, rfl, rfl, rfl⟩ 0 rfl rfl rfl rfl hl.1 (Nat.le_of_ble_eq_true rfl) rfl dX9_drains_29 ⟨Nat.le_of_ble_eq_true rfl, Nat.le_of_ble_eq_true rfl⟩ (fun o_3 H locs eo_3 hP hD hS => ?_)
    refine lv_if_eq (tgt := 39) hX hB dX9_drains_32 (by decide) (fun c_4 => ?_) (fun c_4 => ?_)
    · refine lv_aload_n hX hB dX9_drains_39 rfl (lv_at hl 0 rfl) ?_
      refine lv_iconst (v := 3) hX hB dX9_drains_40 (by decide) ?_
      refine lv_bipush (v := 100) hX hB dX9_drains_41 (by decide) ?_
      refine lv_aload_n hX hB dX9_drains_43 rfl (lv_at hl 0 rfl) ?_
      refine fg_X9_7 C hP 0 rfl rfl dX9_drains_44 ?_
      refine lv_bipush (v := 7) hX hB dX9_drains_47 (by decide) ?_
      refine z_iald C hP 1 rfl (k := 7) (zlit 7) (by decide) (by decide) (v := g 7) (pk_un (by decide)) dX9_drains_49 ?_
      refine z_imul (v := 100 * (g 7)) C dX9_drains_50 rfl ?_
      refine z_callVi (isC := [0, 1]) (isR := []) (isO := [0, 1]) (n_X9_scores (upd g 14 ((g 14) + 1)) 3 (100 * (g 7))) (q_X9_scores cy h0 h1 h2 h3 h4 h5 h6 h7 h8 h9 v1 v2 v3 v4 v5 v6 v7 v8 v9 v10 v11) (fun o_5 => [(h0, .inr (11, [.ref h1, .ref h2, .ref h3, .ref h4, .ref h5, .int v1, .int v2, .int v3, .int v4, .int v5, .ref h6, .int v6, .ref h7, .ref h8, .ref h9, .int v7, .int v8, .int v9, .int v10, .int v11])), (h1, .inl (cy 0, 64, .inl (o_5.2)))]) (fun o_5 => o_5.1) (c_X9_scores l hE D cy h0 h1 h2 h3 h4 h5 h6 h7 h8 h9 v1 v2 v3 v4 v5 v6 v7 v8 v9 v10 v11 (upd g 14 ((g 14) + 1)) 3 3 (100 * (g 7)) (zlit 3) (by omega) (zle_of (zi_tr (pk_un (by decide)) hc.1) (by omega) (by decide))) hE C zs_X9_119 ⟨Nat.le_of_ble_eq_true rfl, Nat.le_of_ble_eq_true rfl⟩ hP hD hS hA hE0 ⟨rfl, rfl, rfl, by decide, rfl, rfl, rfl⟩ 0 rfl rfl rfl rfl hl.1 (Nat.le_of_ble_eq_true rfl) rfl dX9_drains_51 ⟨Nat.le_of_ble_eq_true rfl, Nat.le_of_ble_eq_true rfl⟩ (fun o_5 H locs eo_5 hP hD hS => ?_)
      refine lv_istore_n (lv' := [(1, .int o_5.1), (0, .ref h0)]) hX hB dX9_drains_54 rfl hl (by decide) rfl (fun ls hl => ?_)
      refine lv_aload_n hX hB dX9_drains_55 rfl (lv_at hl 1 rfl) ?_
      refine z_callVv (isC := [0, 1]) (isR := []) (isO := [0, 1]) (n_X9_follows o_5.2) (q_X9_follows cy h0 h1 h2 h3 h4 h5 h6 h7 h8 h9 v1 v2 v3 v4 v5 v6 v7 v8 v9 v10 v11) (fun o_6 => [(h0, .inr (11, [.ref h1, .ref h2, .ref h3, .ref h4, .ref h5, .int v1, .int v2, .int v3, .int v4, .int v5, .ref h6, .int v6, .ref h7, .ref h8, .ref h9, .int v7, .int v8, .int v9, .int v10, .int v11])), (h1, .inl (cy 0, 64, .inl (o_6)))]) (c_X9_follows l hE D cy h0 h1 h2 h3 h4 h5 h6 h7 h8 h9 v1 v2 v3 v4 v5 v6 v7 v8 v9 v10 v11 o_5.2 (zle_of (zi_tr ((show o_5.2 3 = (upd g 14 ((g 14) + 1)) 3 by rw [eo_5]; exact k_X9_scores (upd g 14 ((g 14) + 1)) 3 (100 * (g 7)) 3 (by omega)).trans (pk_un (by decide))) hc.1) (by omega) (by decide)) (zle_of (zi_tr ((show o_5.2 2 = (upd g 14 ((g 14) + 1)) 2 by rw [eo_5]; exact k_X9_scores (upd g 14 ((g 14) + 1)) 3 (100 * (g 7)) 2 (by omega)).trans (pk_un (by decide))) hn.1) (by omega) (by decide)) (zge_of (zi_tr ((show o_5.2 2 = (upd g 14 ((g 14) + 1)) 2 by rw [eo_5]; exact k_X9_scores (upd g 14 ((g 14) + 1)) 3 (100 * (g 7)) 2 (by omega)).trans (pk_un (by decide))) hn.1) (by omega) (by omega)) (zle_of (zi_tr ((show o_5.2 13 = (upd g 14 ((g 14) + 1)) 13 by rw [eo_5]; exact k_X9_scores (upd g 14 ((g 14) + 1)) 3 (100 * (g 7)) 13 (by omega)).trans (pk_un (by decide))) hq.1) (by omega) (by decide))) hE C zs_X9_159 ⟨Nat.le_of_ble_eq_true rfl, Nat.le_of_ble_eq_true rfl⟩ hP hD hS hA hE0 ⟨rfl, rfl, rfl, by decide, rfl, rfl, rfl⟩ 0 rfl rfl rfl rfl hl.1 (Nat.le_of_ble_eq_true rfl) rfl dX9_drains_56 ⟨Nat.le_of_ble_eq_true rfl, Nat.le_of_ble_eq_true rfl⟩ (fun o_6 H locs eo_6 hP hD hS => ?_)
      refine lv_iload_n hX hB dX9_drains_59 rfl (lv_at hl 0 rfl) ?_
      exact z_iret' (o_5.1, o_6) (w' := q_X9_drains cy h0 h1 h2 h3 h4 h5 h6 h7 h8 h9 v1 v2 v3 v4 v5 v6 v7 v8 v9 v10 v11) (r0 := (fun (o : Int32 × (Nat → Int32)) => o.1)) (by simp only [n_X9_drains, ← eo_1, if_pos c_2, ← eo_3, if_pos c_4, ← eo_5, ← eo_6]) C hRT hP hD hS (Nat.le_of_ble_eq_true rfl) (Nat.le_of_ble_eq_true rfl) rfl rfl dX9_drains_60
    · refine lv_iconst (v := 0) hX hB dX9_drains_35 (by decide) ?_
      refine lv_goto (tgt := 54) hX hB dX9_drains_36 (by decide) ?_
      refine lv_istore_n (lv' := [(1, .int 0), (0, .ref h0)]) hX hB dX9_drains_54 rfl hl (by decide) rfl (fun ls hl => ?_)
      refine lv_aload_n hX hB dX9_drains_55 rfl (lv_at hl 1 rfl) ?_
      refine z_callVv (isC := [0, 1]) (isR := []) (isO := [0, 1]) (n_X9_follows (upd g 14 ((g 14) + 1))) (q_X9_follows cy h0 h1 h2 h3 h4 h5 h6 h7 h8 h9 v1 v2 v3 v4 v5 v6 v7 v8 v9 v10 v11) (fun o_7 => [(h0, .inr (11, [.ref h1, .ref h2, .ref h3, .ref h4, .ref h5, .int v1, .int v2, .int v3, .int v4, .int v5, .ref h6, .int v6, .ref h7, .ref h8, .ref h9, .int v7, .int v8, .int v9, .int v10, .int v11])), (h1, .inl (cy 0, 64, .inl (o_7)))]) (c_X9_follows l hE D cy h0 h1 h2 h3 h4 h5 h6 h7 h8 h9 v1 v2 v3 v4 v5 v6 v7 v8 v9 v10 v11 (upd g 14 ((g 14) + 1)) (zle_of (zi_tr (pk_un (by decide)) hc.1) (by omega) (by decide)) (zle_of (zi_tr (pk_un (by decide)) hn.1) (by omega) (by decide)) (zge_of (zi_tr (pk_un (by decide)) hn.1) (by omega) (by omega)) (zle_of (zi_tr (pk_un (by decide)) hq.1) (by omega) (by decide))) hE C zs_X9_159 ⟨Nat.le_of_ble_eq_true rfl, Nat.le_of_ble_eq_true rfl⟩ hP hD hS hA hE0 ⟨rfl, rfl, rfl, by decide, rfl, rfl, rfl⟩ 0 rfl rfl rfl rfl hl.1 (Nat.le_of_ble_eq_true rfl) rfl dX9_drains_56 ⟨Nat.le_of_ble_eq_true rfl, Nat.le_of_ble_eq_true rfl⟩ (fun o_7 H locs eo_7 hP hD hS => ?_)
      refine lv_iload_n hX hB dX9_drains_59 rfl (lv_at hl 0 rfl) ?_
      exact z_iret' (0, o_7) (w' := q_X9_drains cy h0 h1 h2 h3 h4 h5 h6 h7 h8 h9 v1 v2 v3 v4 v5 v6 v7 v8 v9 v10 v11) (r0 := (fun (o : Int32 × (Nat → Int32)) => o.1)) (by simp only [n_X9_drains, ← eo_1, if_pos c_2, ← eo_3, if_neg c_4, ← eo_7]) C hRT hP hD hS (Nat.le_of_ble_eq_true rfl) (Nat.le_of_ble_eq_true rfl) rfl rfl dX9_drains_60
  · refine lv_aload_n hX hB dX9_drains_7 rfl (lv_at hl 0 rfl) ?_
    refine fg_X9_7 C hP 0 rfl rfl dX9_drains_8 ?_
    refine lv_bipush (v := 12) hX hB dX9_drains_11 (by decide) ?_
    refine lv_iconst (v := 1) hX hB dX9_drains_13 (by decide) ?_
    refine z_iast C hP hD hS 1 rfl (k := 12) (zlit 12) (by decide) (by decide) (w' := [(h0, .inr (11, [.ref h1, .ref h2, .ref h3, .ref h4, .ref h5, .int v1, .int v2, .int v3, .int v4, .int v5, .ref h6, .int v6, .ref h7, .ref h8, .ref h9, .int v7, .int v8, .int v9, .int v10, .int v11])), (h1, .inl (cy 0, 64, .inl (upd g 12 1)))]) rfl dX9_drains_14 (fun H locs hP hD hS => ?_)
    refine lv_iconst (v := 0) hX hB dX9_drains_15 (by decide) ?_
    exact z_iret' (0, upd g 12 1) (w' := q_X9_drains cy h0 h1 h2 h3 h4 h5 h6 h7 h8 h9 v1 v2 v3 v4 v5 v6 v7 v8 v9 v10 v11) (r0 := (fun (o : Int32 × (Nat → Int32)) => o.1)) (by simp only [n_X9_drains, ← eo_1, if_neg c_2]) C hRT hP hD hS (Nat.le_of_ble_eq_true rfl) (Nat.le_of_ble_eq_true rfl) rfl rfl dX9_drains_16

def n_X9_drain_ok (v2 : Int32) (g : Nat → Int32) (gb : Nat → Int32) (gh : Nat → Int32) : Int32 × Int32 × Int32 × (Nat → Int32) × (Nat → Int32) × (Nat → Int32) :=
  let o_1 := n_X9_begin g gb
  let o_3 := n_X9_drains g
  let o_4 := n_X9_commit v2 o_1.2 gh o_3.1
  (o_4.1, o_1.1, o_4.2.1, o_3.2, o_1.2, o_4.2.2)
def q_X9_drain_ok (cy : Nat → ClassId) (h0 : Nat) (h1 : Nat) (h2 : Nat) (h3 : Nat) (h4 : Nat) (h5 : Nat) (h6 : Nat) (h7 : Nat) (h8 : Nat) (h9 : Nat) (v3 : Int32) (v4 : Int32) (v5 : Int32) (v6 : Int32) (v7 : Int32) (v8 : Int32) (v9 : Int32) (v10 : Int32) (v11 : Int32) (o : Int32 × Int32 × Int32 × (Nat → Int32) × (Nat → Int32) × (Nat → Int32)) : va_W := [(h0, .inr (11, [.ref h1, .ref h2, .ref h3, .ref h4, .ref h5, .int o.2.1, .int o.2.2.1, .int v3, .int v4, .int v5, .ref h6, .int v6, .ref h7, .ref h8, .ref h9, .int v7, .int v8, .int v9, .int v10, .int v11])), (h1, .inl (cy 0, 64, .inl (o.2.2.2.1))), (h2, .inl (cy 0, 64, .inl (o.2.2.2.2.1))), (h5, .inl (cy 0, 512, .inl (o.2.2.2.2.2)))]
set_option maxHeartbeats 4000000 in
set_option maxRecDepth 100000 in
theorem c_X9_drain_ok (l : Launch) {E : zEn} (hE : zEok E) (D : zG) (cy : Nat → ClassId) (h0 h1 h2 h3 h4 h5 h6 h7 h8 h9 : Nat) (v1 : Int32) (v2 : Int32) (v3 : Int32) (v4 : Int32) (v5 : Int32) (v6 : Int32) (v7 : Int32) (v8 : Int32) (v9 : Int32) (v10 : Int32) (v11 : Int32) (g : Nat → Int32) (gb : Nat → Int32) (gh : Nat → Int32) (hr : g 0 = 1) (hc : zle (g 3) 3) (hn : zle (g 2) 4) (hn1 : 1 ≤ zn (g 2)) (hq : zle (g 13) 5) (hd : zle v2 8) (sz : Nat) : Met l yX9_drain (zws yX9_drain cX9_drain 1 (some .int)) { frames := 4, cells := 0, slots := 0, locals := 91 } (zPre E D cy [.ref h0] [(h0, .inr (11, [.ref h1, .ref h2, .ref h3, .ref h4, .ref h5, .int v1, .int v2, .int v3, .int v4, .int v5, .ref h6, .int v6, .ref h7, .ref h8, .ref h9, .int v7, .int v8, .int v9, .int v10, .int v11])), (h1, .inl (cy 0, 64, .inl (g))), (h2, .inl (cy 0, 64, .inl (gb))), (h5, .inl (cy 0, 512, .inl (gh)))] sz) (zQi D ((q_X9_drain_ok cy h0 h1 h2 h3 h4 h5 h6 h7 h8 h9 v3 v4 v5 v6 v7 v8 v9 v10 v11) (n_X9_drain_ok v2 g gb gh)) (va_A [(h0, .inr (11, [.ref h1, .ref h2, .ref h3, .ref h4, .ref h5, .int v1, .int v2, .int v3, .int v4, .int v5, .ref h6, .int v6, .ref h7, .ref h8, .ref h9, .int v7, .int v8, .int v9, .int v10, .int v11])), (h1, .inl (cy 0, 64, .inl (g))), (h2, .inl (cy 0, 64, .inl (gb))), (h5, .inl (cy 0, 512, .inl (gh)))] sz) ((n_X9_drain_ok v2 g gb gh).1)) 0 0 (va_A [(h0, .inr (11, [.ref h1, .ref h2, .ref h3, .ref h4, .ref h5, .int v1, .int v2, .int v3, .int v4, .int v5, .ref h6, .int v6, .ref h7, .ref h8, .ref h9, .int v7, .int v8, .int v9, .int v10, .int v11])), (h1, .inl (cy 0, 64, .inl (g))), (h2, .inl (cy 0, 64, .inl (gb))), (h5, .inl (cy 0, 512, .inl (gh)))] sz) := by
  refine z_of (Qc := fun A => zQi D ((q_X9_drain_ok cy h0 h1 h2 h3 h4 h5 h6 h7 h8 h9 v3 v4 v5 v6 v7 v8 v9 v10 v11) (n_X9_drain_ok v2 g gb gh)) A ((n_X9_drain_ok v2 g gb gh).1)) (by decide +kernel) (Nat.le_of_ble_eq_true rfl) rfl ?_
  intro pG eN sT mI below meth cO A ls C hRT hnm hA hP hD hS hE0 hl
  have hX := C.x
  have hB := C.b
  have hc_ := hc.2
  have hn_ := hn.2
  have hq_ := hq.2
  have hd_ := hd.2
  refine lv_aload_n hX hB dX9_drain_0 rfl (lv_at hl 0 rfl) ?_
  refine z_callVv (isC := [0, 1, 2]) (isR := [3]) (isO := [1, 2, 3, 0]) (n_X9_begin g gb) (q_X9_begin cy h0 h1 h2 h3 h4 h5 h6 h7 h8 h9 v2 v3 v4 v5 v6 v7 v8 v9 v10 v11 g) (fun o_1 => [(h0, .inr (11, [.ref h1, .ref h2, .ref h3, .ref h4, .ref h5, .int o_1.1, .int v2, .int v3, .int v4, .int v5, .ref h6, .int v6, .ref h7, .ref h8, .ref h9, .int v7, .int v8, .int v9, .int v10, .int v11])), (h1, .inl (cy 0, 64, .inl (g))), (h2, .inl (cy 0, 64, .inl (o_1.2))), (h5, .inl (cy 0, 512, .inl (gh)))]) (c_X9_begin l hE D cy h0 h1 h2 h3 h4 h5 h6 h7 h8 h9 v1 v2 v3 v4 v5 v6 v7 v8 v9 v10 v11 g gb ) hE C zs_X9_80 ⟨Nat.le_of_ble_eq_true rfl, Nat.le_of_ble_eq_true rfl⟩ hP hD hS hA hE0 ⟨rfl, rfl, rfl, by decide, rfl, rfl, rfl⟩ 0 rfl rfl rfl rfl hl.1 (Nat.le_of_ble_eq_true rfl) rfl dX9_drain_1 ⟨Nat.le_of_ble_eq_true rfl, Nat.le_of_ble_eq_true rfl⟩ (fun o_1 H locs eo_1 hP hD hS => ?_)
  refine lv_aload_n hX hB dX9_drain_4 rfl (lv_at hl 0 rfl) ?_
  refine z_callVi (isC := [0, 1]) (isR := [2, 3]) (isO := [2, 3, 0, 1]) (()) (q_X9_runs_t cy h0 h1 h2 h3 h4 h5 h6 h7 h8 h9 o_1.1 v2 v3 v4 v5 v6 v7 v8 v9 v10 v11 g) (fun o_2 => [(h0, .inr (11, [.ref h1, .ref h2, .ref h3, .ref h4, .ref h5, .int o_1.1, .int v2, .int v3, .int v4, .int v5, .ref h6, .int v6, .ref h7, .ref h8, .ref h9, .int v7, .int v8, .int v9, .int v10, .int v11])), (h1, .inl (cy 0, 64, .inl (g))), (h2, .inl (cy 0, 64, .inl (o_1.2))), (h5, .inl (cy 0, 512, .inl (gh)))]) (fun o_2 => 1) (c_X9_runs_t l hE D cy h0 h1 h2 h3 h4 h5 h6 h7 h8 h9 o_1.1 v2 v3 v4 v5 v6 v7 v8 v9 v10 v11 g hr) hE C zs_X9_76 ⟨Nat.le_of_ble_eq_true rfl, Nat.le_of_ble_eq_true rfl⟩ hP hD hS hA hE0 ⟨rfl, rfl, rfl, by decide, rfl, rfl, rfl⟩ 0 rfl rfl rfl rfl hl.1 (Nat.le_of_ble_eq_true rfl) rfl dX9_drain_5 ⟨Nat.le_of_ble_eq_true rfl, Nat.le_of_ble_eq_true rfl⟩ (fun o_2 H locs eo_2 hP hD hS => ?_)
  refine lv_if_eq (tgt := 22) hX hB dX9_drain_8 (by decide) (fun c => absurd c (by decide)) (fun _ => ?_)
  refine lv_aload_n hX hB dX9_drain_11 rfl (lv_at hl 0 rfl) ?_
  refine lv_aload_n hX hB dX9_drain_12 rfl (lv_at hl 0 rfl) ?_
  refine z_callVi (isC := [0, 1]) (isR := [2, 3]) (isO := [2, 3, 0, 1]) (n_X9_drains g) (q_X9_drains cy h0 h1 h2 h3 h4 h5 h6 h7 h8 h9 o_1.1 v2 v3 v4 v5 v6 v7 v8 v9 v10 v11) (fun o_3 => [(h0, .inr (11, [.ref h1, .ref h2, .ref h3, .ref h4, .ref h5, .int o_1.1, .int v2, .int v3, .int v4, .int v5, .ref h6, .int v6, .ref h7, .ref h8, .ref h9, .int v7, .int v8, .int v9, .int v10, .int v11])), (h1, .inl (cy 0, 64, .inl (o_3.2))), (h2, .inl (cy 0, 64, .inl (o_1.2))), (h5, .inl (cy 0, 512, .inl (gh)))]) (fun o_3 => o_3.1) (c_X9_drains l hE D cy h0 h1 h2 h3 h4 h5 h6 h7 h8 h9 o_1.1 v2 v3 v4 v5 v6 v7 v8 v9 v10 v11 g (zle_of (zi_tr rfl hc.1) (by omega) (by decide)) (zle_of (zi_tr rfl hn.1) (by omega) (by decide)) (zge_of (zi_tr rfl hn.1) (by omega) (by omega)) (zle_of (zi_tr rfl hq.1) (by omega) (by decide))) hE C zs_X9_162 ⟨Nat.le_of_ble_eq_true rfl, Nat.le_of_ble_eq_true rfl⟩ hP hD hS hA hE0 ⟨rfl, rfl, rfl, by decide, rfl, rfl, rfl⟩ 0 rfl rfl rfl rfl hl.1 (Nat.le_of_ble_eq_true rfl) rfl dX9_drain_13 ⟨Nat.le_of_ble_eq_true rfl, Nat.le_of_ble_eq_true rfl⟩ (fun o_3 H locs eo_3 hP hD hS => ?_)
  refine z_callVi (isC := [0, 2, 3]) (isR := [1]) (isO := [1, 0, 2, 3]) (n_X9_commit v2 o_1.2 gh o_3.1) (q_X9_commit cy h0 h1 h2 h3 h4 h5 h6 h7 h8 h9 o_1.1 v3 v4 v5 v6 v7 v8 v9 v10 v11 o_1.2) (fun o_4 => [(h0, .inr (11, [.ref h1, .ref h2, .ref h3, .ref h4, .ref h5, .int o_1.1, .int o_4.2.1, .int v3, .int v4, .int v5, .ref h6, .int v6, .ref h7, .ref h8, .ref h9, .int v7, .int v8, .int v9, .int v10, .int v11])), (h1, .inl (cy 0, 64, .inl (o_3.2))), (h2, .inl (cy 0, 64, .inl (o_1.2))), (h5, .inl (cy 0, 512, .inl (o_4.2.2)))]) (fun o_4 => o_4.1) (c_X9_commit l hE D cy h0 h1 h2 h3 h4 h5 h6 h7 h8 h9 o_1.1 v2 v3 v4 v5 v6 v7 v8 v9 v10 v11 o_1.2 gh o_3.1 (zle_of hd.1 (by omega) (by decide))) hE C zs_X9_94 ⟨Nat.le_of_ble_eq_true rfl, Nat.le_of_ble_eq_true rfl⟩ hP hD hS hA hE0 ⟨rfl, rfl, rfl, by decide, rfl, rfl, rfl⟩ 0 rfl rfl rfl rfl hl.1 (Nat.le_of_ble_eq_true rfl) rfl dX9_drain_16 ⟨Nat.le_of_ble_eq_true rfl, Nat.le_of_ble_eq_true rfl⟩ (fun o_4 H locs eo_4 hP hD hS => ?_)
  refine lv_goto (tgt := 27) hX hB dX9_drain_19 (by decide) ?_
  exact z_iret' (o_4.1, o_1.1, o_4.2.1, o_3.2, o_1.2, o_4.2.2) (w' := q_X9_drain_ok cy h0 h1 h2 h3 h4 h5 h6 h7 h8 h9 v3 v4 v5 v6 v7 v8 v9 v10 v11) (r0 := (fun (o : Int32 × Int32 × Int32 × (Nat → Int32) × (Nat → Int32) × (Nat → Int32)) => o.1)) (by simp only [n_X9_drain_ok, ← eo_1, ← eo_3, ← eo_4]) C hRT hP hD hS (Nat.le_of_ble_eq_true rfl) (Nat.le_of_ble_eq_true rfl) rfl rfl dX9_drain_27

def n_X9_drain_1 (g : Nat → Int32) (gb : Nat → Int32) : Int32 × (Nat → Int32) :=
  let o_1 := n_X9_begin g gb
  let o_3 := n_X9_fail 1
  (o_3, o_1.2)
def q_X9_drain_1 (cy : Nat → ClassId) (h0 : Nat) (h1 : Nat) (h2 : Nat) (h3 : Nat) (h4 : Nat) (h5 : Nat) (h6 : Nat) (h7 : Nat) (h8 : Nat) (h9 : Nat) (v2 : Int32) (v3 : Int32) (v4 : Int32) (v5 : Int32) (v6 : Int32) (v7 : Int32) (v8 : Int32) (v9 : Int32) (v10 : Int32) (v11 : Int32) (g : Nat → Int32) (gh : Nat → Int32) (o : Int32 × (Nat → Int32)) : va_W := [(h0, .inr (11, [.ref h1, .ref h2, .ref h3, .ref h4, .ref h5, .int o.1, .int v2, .int v3, .int v4, .int v5, .ref h6, .int v6, .ref h7, .ref h8, .ref h9, .int v7, .int v8, .int v9, .int v10, .int v11])), (h1, .inl (cy 0, 64, .inl (g))), (h2, .inl (cy 0, 64, .inl (o.2))), (h5, .inl (cy 0, 512, .inl (gh)))]
set_option maxHeartbeats 4000000 in
set_option maxRecDepth 100000 in
theorem c_X9_drain_1 (l : Launch) {E : zEn} (hE : zEok E) (D : zG) (cy : Nat → ClassId) (h0 h1 h2 h3 h4 h5 h6 h7 h8 h9 : Nat) (v1 : Int32) (v2 : Int32) (v3 : Int32) (v4 : Int32) (v5 : Int32) (v6 : Int32) (v7 : Int32) (v8 : Int32) (v9 : Int32) (v10 : Int32) (v11 : Int32) (g : Nat → Int32) (gb : Nat → Int32) (gh : Nat → Int32) (hr : ¬ g 0 = 1) (hd : zle v2 8) (sz : Nat) : Met l yX9_drain (zws yX9_drain cX9_drain 1 (some .int)) { frames := 2, cells := 0, slots := 0, locals := 44 } (zPre E D cy [.ref h0] [(h0, .inr (11, [.ref h1, .ref h2, .ref h3, .ref h4, .ref h5, .int v1, .int v2, .int v3, .int v4, .int v5, .ref h6, .int v6, .ref h7, .ref h8, .ref h9, .int v7, .int v8, .int v9, .int v10, .int v11])), (h1, .inl (cy 0, 64, .inl (g))), (h2, .inl (cy 0, 64, .inl (gb))), (h5, .inl (cy 0, 512, .inl (gh)))] sz) (zQi D ((q_X9_drain_1 cy h0 h1 h2 h3 h4 h5 h6 h7 h8 h9 v2 v3 v4 v5 v6 v7 v8 v9 v10 v11 g gh) (n_X9_drain_1 g gb)) (va_A [(h0, .inr (11, [.ref h1, .ref h2, .ref h3, .ref h4, .ref h5, .int v1, .int v2, .int v3, .int v4, .int v5, .ref h6, .int v6, .ref h7, .ref h8, .ref h9, .int v7, .int v8, .int v9, .int v10, .int v11])), (h1, .inl (cy 0, 64, .inl (g))), (h2, .inl (cy 0, 64, .inl (gb))), (h5, .inl (cy 0, 512, .inl (gh)))] sz) (0)) 0 0 (va_A [(h0, .inr (11, [.ref h1, .ref h2, .ref h3, .ref h4, .ref h5, .int v1, .int v2, .int v3, .int v4, .int v5, .ref h6, .int v6, .ref h7, .ref h8, .ref h9, .int v7, .int v8, .int v9, .int v10, .int v11])), (h1, .inl (cy 0, 64, .inl (g))), (h2, .inl (cy 0, 64, .inl (gb))), (h5, .inl (cy 0, 512, .inl (gh)))] sz) := by
  refine z_of (Qc := fun A => zQi D ((q_X9_drain_1 cy h0 h1 h2 h3 h4 h5 h6 h7 h8 h9 v2 v3 v4 v5 v6 v7 v8 v9 v10 v11 g gh) (n_X9_drain_1 g gb)) A (0)) (by decide +kernel) (Nat.le_of_ble_eq_true rfl) rfl ?_
  intro pG eN sT mI below meth cO A ls C hRT hnm hA hP hD hS hE0 hl
  have hX := C.x
  have hB := C.b
  have hd_ := hd.2
  refine lv_aload_n hX hB dX9_drain_0 rfl (lv_at hl 0 rfl) ?_
  refine z_callVv (isC := [0, 1, 2]) (isR := [3]) (isO := [1, 2, 3, 0]) (n_X9_begin g gb) (q_X9_begin cy h0 h1 h2 h3 h4 h5 h6 h7 h8 h9 v2 v3 v4 v5 v6 v7 v8 v9 v10 v11 g) (fun o_1 => [(h0, .inr (11, [.ref h1, .ref h2, .ref h3, .ref h4, .ref h5, .int o_1.1, .int v2, .int v3, .int v4, .int v5, .ref h6, .int v6, .ref h7, .ref h8, .ref h9, .int v7, .int v8, .int v9, .int v10, .int v11])), (h1, .inl (cy 0, 64, .inl (g))), (h2, .inl (cy 0, 64, .inl (o_1.2))), (h5, .inl (cy 0, 512, .inl (gh)))]) (c_X9_begin l hE D cy h0 h1 h2 h3 h4 h5 h6 h7 h8 h9 v1 v2 v3 v4 v5 v6 v7 v8 v9 v10 v11 g gb ) hE C zs_X9_80 ⟨Nat.le_of_ble_eq_true rfl, Nat.le_of_ble_eq_true rfl⟩ hP hD hS hA hE0 ⟨rfl, rfl, rfl, by decide, rfl, rfl, rfl⟩ 0 rfl rfl rfl rfl hl.1 (Nat.le_of_ble_eq_true rfl) rfl dX9_drain_1 ⟨Nat.le_of_ble_eq_true rfl, Nat.le_of_ble_eq_true rfl⟩ (fun o_1 H locs eo_1 hP hD hS => ?_)
  refine lv_aload_n hX hB dX9_drain_4 rfl (lv_at hl 0 rfl) ?_
  refine z_callVi (isC := [0, 1]) (isR := [2, 3]) (isO := [2, 3, 0, 1]) (()) (q_X9_runs_f cy h0 h1 h2 h3 h4 h5 h6 h7 h8 h9 o_1.1 v2 v3 v4 v5 v6 v7 v8 v9 v10 v11 g) (fun o_2 => [(h0, .inr (11, [.ref h1, .ref h2, .ref h3, .ref h4, .ref h5, .int o_1.1, .int v2, .int v3, .int v4, .int v5, .ref h6, .int v6, .ref h7, .ref h8, .ref h9, .int v7, .int v8, .int v9, .int v10, .int v11])), (h1, .inl (cy 0, 64, .inl (g))), (h2, .inl (cy 0, 64, .inl (o_1.2))), (h5, .inl (cy 0, 512, .inl (gh)))]) (fun o_2 => 0) (c_X9_runs_f l hE D cy h0 h1 h2 h3 h4 h5 h6 h7 h8 h9 o_1.1 v2 v3 v4 v5 v6 v7 v8 v9 v10 v11 g hr) hE C zs_X9_76 ⟨Nat.le_of_ble_eq_true rfl, Nat.le_of_ble_eq_true rfl⟩ hP hD hS hA hE0 ⟨rfl, rfl, rfl, by decide, rfl, rfl, rfl⟩ 0 rfl rfl rfl rfl hl.1 (Nat.le_of_ble_eq_true rfl) rfl dX9_drain_5 ⟨Nat.le_of_ble_eq_true rfl, Nat.le_of_ble_eq_true rfl⟩ (fun o_2 H locs eo_2 hP hD hS => ?_)
  refine lv_if_eq (tgt := 22) hX hB dX9_drain_8 (by decide) (fun _ => ?_) (fun c => absurd (by decide) c)
  refine lv_aload_n hX hB dX9_drain_22 rfl (lv_at hl 0 rfl) ?_
  refine lv_iconst (v := 1) hX hB dX9_drain_23 (by decide) ?_
  refine z_callVi (isC := [0]) (isR := [1, 2, 3]) (isO := [3, 0, 1, 2]) (n_X9_fail 1) (q_X9_fail h0 h1 h2 h3 h4 h5 h6 h7 h8 h9 v2 v3 v4 v5 v6 v7 v8 v9 v10 v11) (fun o_3 => [(h0, .inr (11, [.ref h1, .ref h2, .ref h3, .ref h4, .ref h5, .int o_3, .int v2, .int v3, .int v4, .int v5, .ref h6, .int v6, .ref h7, .ref h8, .ref h9, .int v7, .int v8, .int v9, .int v10, .int v11])), (h1, .inl (cy 0, 64, .inl (g))), (h2, .inl (cy 0, 64, .inl (o_1.2))), (h5, .inl (cy 0, 512, .inl (gh)))]) (fun o_3 => 0) (c_X9_fail l hE D cy h0 h1 h2 h3 h4 h5 h6 h7 h8 h9 o_1.1 v2 v3 v4 v5 v6 v7 v8 v9 v10 v11 1 ) hE C zs_X9_87 ⟨Nat.le_of_ble_eq_true rfl, Nat.le_of_ble_eq_true rfl⟩ hP hD hS hA hE0 ⟨rfl, rfl, rfl, by decide, rfl, rfl, rfl⟩ 0 rfl rfl rfl rfl hl.1 (Nat.le_of_ble_eq_true rfl) rfl dX9_drain_24 ⟨Nat.le_of_ble_eq_true rfl, Nat.le_of_ble_eq_true rfl⟩ (fun o_3 H locs eo_3 hP hD hS => ?_)
  exact z_iret' (o_3, o_1.2) (w' := q_X9_drain_1 cy h0 h1 h2 h3 h4 h5 h6 h7 h8 h9 v2 v3 v4 v5 v6 v7 v8 v9 v10 v11 g gh) (r0 := (fun (o : Int32 × (Nat → Int32)) => 0)) (by simp only [n_X9_drain_1, ← eo_1, ← eo_3]) C hRT hP hD hS (Nat.le_of_ble_eq_true rfl) (Nat.le_of_ble_eq_true rfl) rfl rfl dX9_drain_27

def n_X9_nextPlayer_ok (g : Nat → Int32) (ga : Nat → Int32) : Int32 × Int32 × (Nat → Int32) × (Nat → Int32) :=
  let o_2 := n_X9_copy g ga 0 0
  let o_3 := n_X9_drains g
  let o_4 := n_X9_runs o_3.2
  if o_4 = 0 then
    let o_7 := n_X9_copy o_2 o_3.2 0 0
    let o_8 := n_X9_fail 2
    (0, o_8, o_7, o_2)
  else
    let o_6 := n_X9_copy o_2 o_3.2 0 0
    (o_3.2 3, 0, o_6, o_2)
def q_X9_nextPlayer_ok (cy : Nat → ClassId) (h0 : Nat) (h1 : Nat) (h2 : Nat) (h3 : Nat) (h4 : Nat) (h5 : Nat) (h6 : Nat) (h7 : Nat) (h8 : Nat) (h9 : Nat) (v2 : Int32) (v3 : Int32) (v4 : Int32) (v5 : Int32) (v6 : Int32) (v7 : Int32) (v8 : Int32) (v9 : Int32) (v10 : Int32) (v11 : Int32) (o : Int32 × Int32 × (Nat → Int32) × (Nat → Int32)) : va_W := [(h0, .inr (11, [.ref h1, .ref h2, .ref h3, .ref h4, .ref h5, .int o.2.1, .int v2, .int v3, .int v4, .int v5, .ref h6, .int v6, .ref h7, .ref h8, .ref h9, .int v7, .int v8, .int v9, .int v10, .int v11])), (h1, .inl (cy 0, 64, .inl (o.2.2.1))), (h3, .inl (cy 0, 64, .inl (o.2.2.2)))]
set_option maxHeartbeats 4000000 in
set_option maxRecDepth 100000 in
theorem c_X9_nextPlayer_ok (l : Launch) {E : zEn} (hE : zEok E) (D : zG) (cy : Nat → ClassId) (h0 h1 h2 h3 h4 h5 h6 h7 h8 h9 : Nat) (v1 : Int32) (v2 : Int32) (v3 : Int32) (v4 : Int32) (v5 : Int32) (v6 : Int32) (v7 : Int32) (v8 : Int32) (v9 : Int32) (v10 : Int32) (v11 : Int32) (g : Nat → Int32) (ga : Nat → Int32) (hr : g 0 = 1) (hc : zle (g 3) 3) (hn : zle (g 2) 4) (hn1 : 1 ≤ zn (g 2)) (hq : zle (g 13) 5) (sz : Nat) : Met l yX9_nextPlayer (zws yX9_nextPlayer cX9_nextPlayer 4 (some .int)) { frames := 4, cells := 0, slots := 0, locals := 91 } (zPre E D cy [.ref h0] [(h0, .inr (11, [.ref h1, .ref h2, .ref h3, .ref h4, .ref h5, .int v1, .int v2, .int v3, .int v4, .int v5, .ref h6, .int v6, .ref h7, .ref h8, .ref h9, .int v7, .int v8, .int v9, .int v10, .int v11])), (h1, .inl (cy 0, 64, .inl (g))), (h3, .inl (cy 0, 64, .inl (ga)))] sz) (zQi D ((q_X9_nextPlayer_ok cy h0 h1 h2 h3 h4 h5 h6 h7 h8 h9 v2 v3 v4 v5 v6 v7 v8 v9 v10 v11) (n_X9_nextPlayer_ok g ga)) (va_A [(h0, .inr (11, [.ref h1, .ref h2, .ref h3, .ref h4, .ref h5, .int v1, .int v2, .int v3, .int v4, .int v5, .ref h6, .int v6, .ref h7, .ref h8, .ref h9, .int v7, .int v8, .int v9, .int v10, .int v11])), (h1, .inl (cy 0, 64, .inl (g))), (h3, .inl (cy 0, 64, .inl (ga)))] sz) ((n_X9_nextPlayer_ok g ga).1)) 0 0 (va_A [(h0, .inr (11, [.ref h1, .ref h2, .ref h3, .ref h4, .ref h5, .int v1, .int v2, .int v3, .int v4, .int v5, .ref h6, .int v6, .ref h7, .ref h8, .ref h9, .int v7, .int v8, .int v9, .int v10, .int v11])), (h1, .inl (cy 0, 64, .inl (g))), (h3, .inl (cy 0, 64, .inl (ga)))] sz) := by
  refine z_of (Qc := fun A => zQi D ((q_X9_nextPlayer_ok cy h0 h1 h2 h3 h4 h5 h6 h7 h8 h9 v2 v3 v4 v5 v6 v7 v8 v9 v10 v11) (n_X9_nextPlayer_ok g ga)) A ((n_X9_nextPlayer_ok g ga).1)) (by decide +kernel) (Nat.le_of_ble_eq_true rfl) rfl ?_
  intro pG eN sT mI below meth cO A ls C hRT hnm hA hP hD hS hE0 hl
  have hX := C.x
  have hB := C.b
  have hc_ := hc.2
  have hn_ := hn.2
  have hq_ := hq.2
  refine lv_aload_n hX hB dX9_nextPlayer_0 rfl (lv_at hl 0 rfl) ?_
  refine lv_aload_n hX hB dX9_nextPlayer_1 rfl (lv_at hl 0 rfl) ?_
  refine z_callVi (isC := [0, 1]) (isR := [2]) (isO := [1, 2, 0]) (()) (q_X9_runs_t cy h0 h1 h2 h3 h4 h5 h6 h7 h8 h9 v1 v2 v3 v4 v5 v6 v7 v8 v9 v10 v11 g) (fun o_1 => [(h0, .inr (11, [.ref h1, .ref h2, .ref h3, .ref h4, .ref h5, .int v1, .int v2, .int v3, .int v4, .int v5, .ref h6, .int v6, .ref h7, .ref h8, .ref h9, .int v7, .int v8, .int v9, .int v10, .int v11])), (h1, .inl (cy 0, 64, .inl (g))), (h3, .inl (cy 0, 64, .inl (ga)))]) (fun o_1 => 1) (c_X9_runs_t l hE D cy h0 h1 h2 h3 h4 h5 h6 h7 h8 h9 v1 v2 v3 v4 v5 v6 v7 v8 v9 v10 v11 g hr) hE C zs_X9_76 ⟨Nat.le_of_ble_eq_true rfl, Nat.le_of_ble_eq_true rfl⟩ hP hD hS hA hE0 ⟨rfl, rfl, rfl, by decide, rfl, rfl, rfl⟩ 0 rfl rfl rfl rfl hl.1 (Nat.le_of_ble_eq_true rfl) rfl dX9_nextPlayer_2 ⟨Nat.le_of_ble_eq_true rfl, Nat.le_of_ble_eq_true rfl⟩ (fun o_1 H locs eo_1 hP hD hS => ?_)
  refine lv_if_eq (tgt := 12) hX hB dX9_nextPlayer_5 (by decide) (fun c => absurd c (by decide)) (fun _ => ?_)
  refine lv_iconst (v := 0) hX hB dX9_nextPlayer_8 (by decide) ?_
  refine lv_goto (tgt := 13) hX hB dX9_nextPlayer_9 (by decide) ?_
  refine fp_X9_25 C hP hD hS 0 rfl rfl rfl (Nat.le_of_ble_eq_true rfl) (w' := [(h0, .inr (11, [.ref h1, .ref h2, .ref h3, .ref h4, .ref h5, .int 0, .int v2, .int v3, .int v4, .int v5, .ref h6, .int v6, .ref h7, .ref h8, .ref h9, .int v7, .int v8, .int v9, .int v10, .int v11])), (h1, .inl (cy 0, 64, .inl (g))), (h3, .inl (cy 0, 64, .inl (ga)))]) rfl dX9_nextPlayer_13 (fun H locs hP hD hS => ?_)
  refine lv_aload_n hX hB dX9_nextPlayer_16 rfl (lv_at hl 0 rfl) ?_
  refine fg_X9_25 C hP 0 rfl rfl dX9_nextPlayer_17 ?_
  refine lv_if_le (tgt := 25) hX hB dX9_nextPlayer_20 (by decide) (fun _ => ?_) (fun c => absurd (by decide) c)
  refine lv_aload_n hX hB dX9_nextPlayer_25 rfl (lv_at hl 0 rfl) ?_
  refine fg_X9_7 C hP 0 rfl rfl dX9_nextPlayer_26 ?_
  refine lv_iconst (v := 0) hX hB dX9_nextPlayer_29 (by decide) ?_
  refine lv_aload_n hX hB dX9_nextPlayer_30 rfl (lv_at hl 0 rfl) ?_
  refine fg_X9_16 C hP 0 rfl rfl dX9_nextPlayer_31 ?_
  refine lv_iconst (v := 0) hX hB dX9_nextPlayer_34 (by decide) ?_
  refine z_callSv (isC := [1, 2]) (isR := [0]) (isO := [0, 1, 2]) (n_X9_copy g ga 0 0) (q_X9_copy cy h1 h3 64 64 g) (fun o_2 => [(h0, .inr (11, [.ref h1, .ref h2, .ref h3, .ref h4, .ref h5, .int 0, .int v2, .int v3, .int v4, .int v5, .ref h6, .int v6, .ref h7, .ref h8, .ref h9, .int v7, .int v8, .int v9, .int v10, .int v11])), (h1, .inl (cy 0, 64, .inl (g))), (h3, .inl (cy 0, 64, .inl (o_2)))]) (c_X9_copy l hE D cy h1 h3 64 64 g ga 0 0 0 0 (zlit 0) (zlit 0) (by omega) (by omega) (by omega) (by omega)) hE C zs_X9_72 ⟨Nat.le_of_ble_eq_true rfl, Nat.le_of_ble_eq_true rfl⟩ hP hD hS hA hE0 ⟨rfl, rfl, rfl, by decide, rfl, rfl, rfl⟩ rfl hl.1 (Nat.le_of_ble_eq_true rfl) rfl dX9_nextPlayer_35 ⟨Nat.le_of_ble_eq_true rfl, Nat.le_of_ble_eq_true rfl⟩ (fun o_2 H locs eo_2 hP hD hS => ?_)
  refine lv_aload_n hX hB dX9_nextPlayer_38 rfl (lv_at hl 0 rfl) ?_
  refine z_callVi (isC := [0, 1]) (isR := [2]) (isO := [1, 2, 0]) (n_X9_drains g) (q_X9_drains cy h0 h1 h2 h3 h4 h5 h6 h7 h8 h9 0 v2 v3 v4 v5 v6 v7 v8 v9 v10 v11) (fun o_3 => [(h0, .inr (11, [.ref h1, .ref h2, .ref h3, .ref h4, .ref h5, .int 0, .int v2, .int v3, .int v4, .int v5, .ref h6, .int v6, .ref h7, .ref h8, .ref h9, .int v7, .int v8, .int v9, .int v10, .int v11])), (h1, .inl (cy 0, 64, .inl (o_3.2))), (h3, .inl (cy 0, 64, .inl (o_2)))]) (fun o_3 => o_3.1) (c_X9_drains l hE D cy h0 h1 h2 h3 h4 h5 h6 h7 h8 h9 0 v2 v3 v4 v5 v6 v7 v8 v9 v10 v11 g (zle_of (zi_tr rfl hc.1) (by omega) (by decide)) (zle_of (zi_tr rfl hn.1) (by omega) (by decide)) (zge_of (zi_tr rfl hn.1) (by omega) (by omega)) (zle_of (zi_tr rfl hq.1) (by omega) (by decide))) hE C zs_X9_162 ⟨Nat.le_of_ble_eq_true rfl, Nat.le_of_ble_eq_true rfl⟩ hP hD hS hA hE0 ⟨rfl, rfl, rfl, by decide, rfl, rfl, rfl⟩ 0 rfl rfl rfl rfl hl.1 (Nat.le_of_ble_eq_true rfl) rfl dX9_nextPlayer_39 ⟨Nat.le_of_ble_eq_true rfl, Nat.le_of_ble_eq_true rfl⟩ (fun o_3 H locs eo_3 hP hD hS => ?_)
  refine lv_istore_n (lv' := [(1, .int o_3.1), (0, .ref h0)]) hX hB dX9_nextPlayer_42 rfl hl (by decide) rfl (fun ls hl => ?_)
  refine lv_aload_n hX hB dX9_nextPlayer_43 rfl (lv_at hl 1 rfl) ?_
  refine z_callVi (isC := [0, 1]) (isR := [2]) (isO := [1, 2, 0]) (n_X9_runs o_3.2) (q_X9_runs cy h0 h1 h2 h3 h4 h5 h6 h7 h8 h9 0 v2 v3 v4 v5 v6 v7 v8 v9 v10 v11 o_3.2) (fun o_4 => [(h0, .inr (11, [.ref h1, .ref h2, .ref h3, .ref h4, .ref h5, .int 0, .int v2, .int v3, .int v4, .int v5, .ref h6, .int v6, .ref h7, .ref h8, .ref h9, .int v7, .int v8, .int v9, .int v10, .int v11])), (h1, .inl (cy 0, 64, .inl (o_3.2))), (h3, .inl (cy 0, 64, .inl (o_2)))]) (fun o_4 => o_4) (c_X9_runs l hE D cy h0 h1 h2 h3 h4 h5 h6 h7 h8 h9 0 v2 v3 v4 v5 v6 v7 v8 v9 v10 v11 o_3.2 ) hE C zs_X9_76 ⟨Nat.le_of_ble_eq_true rfl, Nat.le_of_ble_eq_true rfl⟩ hP hD hS hA hE0 ⟨rfl, rfl, rfl, by decide, rfl, rfl, rfl⟩ 0 rfl rfl rfl rfl hl.1 (Nat.le_of_ble_eq_true rfl) rfl dX9_nextPlayer_44 ⟨Nat.le_of_ble_eq_true rfl, Nat.le_of_ble_eq_true rfl⟩ (fun o_4 H locs eo_4 hP hD hS => ?_)
  refine lv_if_ne (tgt := 54) hX hB dX9_nextPlayer_47 (by decide) (fun c_5 => ?_) (fun c_5 => ?_)
  · refine lv_iconst (v := 0) hX hB dX9_nextPlayer_54 (by decide) ?_
    refine lv_istore_n (lv' := [(2, .int 0), (1, .int o_3.1), (0, .ref h0)]) hX hB dX9_nextPlayer_55 rfl hl (by decide) rfl (fun ls hl => ?_)
    refine lv_aload_n hX hB dX9_nextPlayer_56 rfl (lv_at hl 2 rfl) ?_
    refine fg_X9_7 C hP 0 rfl rfl dX9_nextPlayer_57 ?_
    refine lv_iconst (v := 3) hX hB dX9_nextPlayer_60 (by decide) ?_
    refine z_iald C hP 1 rfl (k := 3) (zlit 3) (by decide) (by decide) (v := o_3.2 3) rfl dX9_nextPlayer_61 ?_
    refine lv_istore_n (lv' := [(3, .int (o_3.2 3)), (2, .int 0), (1, .int o_3.1), (0, .ref h0)]) hX hB dX9_nextPlayer_62 rfl hl (by decide) rfl (fun ls hl => ?_)
    refine lv_aload_n hX hB dX9_nextPlayer_63 rfl (lv_at hl 3 rfl) ?_
    refine fg_X9_16 C hP 0 rfl rfl dX9_nextPlayer_64 ?_
    refine lv_iconst (v := 0) hX hB dX9_nextPlayer_67 (by decide) ?_
    refine lv_aload_n hX hB dX9_nextPlayer_68 rfl (lv_at hl 3 rfl) ?_
    refine fg_X9_7 C hP 0 rfl rfl dX9_nextPlayer_69 ?_
    refine lv_iconst (v := 0) hX hB dX9_nextPlayer_72 (by decide) ?_
    refine z_callSv (isC := [2, 1]) (isR := [0]) (isO := [0, 2, 1]) (n_X9_copy o_2 o_3.2 0 0) (q_X9_copy cy h3 h1 64 64 o_2) (fun o_6 => [(h0, .inr (11, [.ref h1, .ref h2, .ref h3, .ref h4, .ref h5, .int 0, .int v2, .int v3, .int v4, .int v5, .ref h6, .int v6, .ref h7, .ref h8, .ref h9, .int v7, .int v8, .int v9, .int v10, .int v11])), (h1, .inl (cy 0, 64, .inl (o_6))), (h3, .inl (cy 0, 64, .inl (o_2)))]) (c_X9_copy l hE D cy h3 h1 64 64 o_2 o_3.2 0 0 0 0 (zlit 0) (zlit 0) (by omega) (by omega) (by omega) (by omega)) hE C zs_X9_72 ⟨Nat.le_of_ble_eq_true rfl, Nat.le_of_ble_eq_true rfl⟩ hP hD hS hA hE0 ⟨rfl, rfl, rfl, by decide, rfl, rfl, rfl⟩ rfl hl.1 (Nat.le_of_ble_eq_true rfl) rfl dX9_nextPlayer_73 ⟨Nat.le_of_ble_eq_true rfl, Nat.le_of_ble_eq_true rfl⟩ (fun o_6 H locs eo_6 hP hD hS => ?_)
    refine lv_iload_n hX hB dX9_nextPlayer_76 rfl (lv_at hl 1 rfl) ?_
    refine lv_if_eq (tgt := 88) hX hB dX9_nextPlayer_77 (by decide) (fun _ => ?_) (fun c => absurd (by decide) c)
    refine lv_iload_n hX hB dX9_nextPlayer_88 rfl (lv_at hl 0 rfl) ?_
    exact z_iret' (o_3.2 3, 0, o_6, o_2) (w' := q_X9_nextPlayer_ok cy h0 h1 h2 h3 h4 h5 h6 h7 h8 h9 v2 v3 v4 v5 v6 v7 v8 v9 v10 v11) (r0 := (fun (o : Int32 × Int32 × (Nat → Int32) × (Nat → Int32)) => o.1)) (by simp only [n_X9_nextPlayer_ok, ← eo_2, ← eo_3, ← eo_4, if_neg c_5, ← eo_6]) C hRT hP hD hS (Nat.le_of_ble_eq_true rfl) (Nat.le_of_ble_eq_true rfl) rfl rfl dX9_nextPlayer_89
  · refine lv_iconst (v := 1) hX hB dX9_nextPlayer_50 (by decide) ?_
    refine lv_goto (tgt := 55) hX hB dX9_nextPlayer_51 (by decide) ?_
    refine lv_istore_n (lv' := [(2, .int 1), (1, .int o_3.1), (0, .ref h0)]) hX hB dX9_nextPlayer_55 rfl hl (by decide) rfl (fun ls hl => ?_)
    refine lv_aload_n hX hB dX9_nextPlayer_56 rfl (lv_at hl 2 rfl) ?_
    refine fg_X9_7 C hP 0 rfl rfl dX9_nextPlayer_57 ?_
    refine lv_iconst (v := 3) hX hB dX9_nextPlayer_60 (by decide) ?_
    refine z_iald C hP 1 rfl (k := 3) (zlit 3) (by decide) (by decide) (v := o_3.2 3) rfl dX9_nextPlayer_61 ?_
    refine lv_istore_n (lv' := [(3, .int (o_3.2 3)), (2, .int 1), (1, .int o_3.1), (0, .ref h0)]) hX hB dX9_nextPlayer_62 rfl hl (by decide) rfl (fun ls hl => ?_)
    refine lv_aload_n hX hB dX9_nextPlayer_63 rfl (lv_at hl 3 rfl) ?_
    refine fg_X9_16 C hP 0 rfl rfl dX9_nextPlayer_64 ?_
    refine lv_iconst (v := 0) hX hB dX9_nextPlayer_67 (by decide) ?_
    refine lv_aload_n hX hB dX9_nextPlayer_68 rfl (lv_at hl 3 rfl) ?_
    refine fg_X9_7 C hP 0 rfl rfl dX9_nextPlayer_69 ?_
    refine lv_iconst (v := 0) hX hB dX9_nextPlayer_72 (by decide) ?_
    refine z_callSv (isC := [2, 1]) (isR := [0]) (isO := [0, 2, 1]) (n_X9_copy o_2 o_3.2 0 0) (q_X9_copy cy h3 h1 64 64 o_2) (fun o_7 => [(h0, .inr (11, [.ref h1, .ref h2, .ref h3, .ref h4, .ref h5, .int 0, .int v2, .int v3, .int v4, .int v5, .ref h6, .int v6, .ref h7, .ref h8, .ref h9, .int v7, .int v8, .int v9, .int v10, .int v11])), (h1, .inl (cy 0, 64, .inl (o_7))), (h3, .inl (cy 0, 64, .inl (o_2)))]) (c_X9_copy l hE D cy h3 h1 64 64 o_2 o_3.2 0 0 0 0 (zlit 0) (zlit 0) (by omega) (by omega) (by omega) (by omega)) hE C zs_X9_72 ⟨Nat.le_of_ble_eq_true rfl, Nat.le_of_ble_eq_true rfl⟩ hP hD hS hA hE0 ⟨rfl, rfl, rfl, by decide, rfl, rfl, rfl⟩ rfl hl.1 (Nat.le_of_ble_eq_true rfl) rfl dX9_nextPlayer_73 ⟨Nat.le_of_ble_eq_true rfl, Nat.le_of_ble_eq_true rfl⟩ (fun o_7 H locs eo_7 hP hD hS => ?_)
    refine lv_iload_n hX hB dX9_nextPlayer_76 rfl (lv_at hl 1 rfl) ?_
    refine lv_if_eq (tgt := 88) hX hB dX9_nextPlayer_77 (by decide) (fun c => absurd c (by decide)) (fun _ => ?_)
    refine lv_aload_n hX hB dX9_nextPlayer_80 rfl (lv_at hl 3 rfl) ?_
    refine lv_iconst (v := 2) hX hB dX9_nextPlayer_81 (by decide) ?_
    refine z_callVi (isC := [0]) (isR := [1, 2]) (isO := [2, 0, 1]) (n_X9_fail 2) (q_X9_fail h0 h1 h2 h3 h4 h5 h6 h7 h8 h9 v2 v3 v4 v5 v6 v7 v8 v9 v10 v11) (fun o_8 => [(h0, .inr (11, [.ref h1, .ref h2, .ref h3, .ref h4, .ref h5, .int o_8, .int v2, .int v3, .int v4, .int v5, .ref h6, .int v6, .ref h7, .ref h8, .ref h9, .int v7, .int v8, .int v9, .int v10, .int v11])), (h1, .inl (cy 0, 64, .inl (o_7))), (h3, .inl (cy 0, 64, .inl (o_2)))]) (fun o_8 => 0) (c_X9_fail l hE D cy h0 h1 h2 h3 h4 h5 h6 h7 h8 h9 0 v2 v3 v4 v5 v6 v7 v8 v9 v10 v11 2 ) hE C zs_X9_87 ⟨Nat.le_of_ble_eq_true rfl, Nat.le_of_ble_eq_true rfl⟩ hP hD hS hA hE0 ⟨rfl, rfl, rfl, by decide, rfl, rfl, rfl⟩ 0 rfl rfl rfl rfl hl.1 (Nat.le_of_ble_eq_true rfl) rfl dX9_nextPlayer_82 ⟨Nat.le_of_ble_eq_true rfl, Nat.le_of_ble_eq_true rfl⟩ (fun o_8 H locs eo_8 hP hD hS => ?_)
    refine lv_goto (tgt := 89) hX hB dX9_nextPlayer_85 (by decide) ?_
    exact z_iret' (0, o_8, o_7, o_2) (w' := q_X9_nextPlayer_ok cy h0 h1 h2 h3 h4 h5 h6 h7 h8 h9 v2 v3 v4 v5 v6 v7 v8 v9 v10 v11) (r0 := (fun (o : Int32 × Int32 × (Nat → Int32) × (Nat → Int32)) => o.1)) (by simp only [n_X9_nextPlayer_ok, ← eo_2, ← eo_3, ← eo_4, if_pos c_5, ← eo_7, ← eo_8]) C hRT hP hD hS (Nat.le_of_ble_eq_true rfl) (Nat.le_of_ble_eq_true rfl) rfl rfl dX9_nextPlayer_89

def n_X9_nextPlayer_1  : Int32 :=
  1
def q_X9_nextPlayer_1 (cy : Nat → ClassId) (h0 : Nat) (h1 : Nat) (h2 : Nat) (h3 : Nat) (h4 : Nat) (h5 : Nat) (h6 : Nat) (h7 : Nat) (h8 : Nat) (h9 : Nat) (v2 : Int32) (v3 : Int32) (v4 : Int32) (v5 : Int32) (v6 : Int32) (v7 : Int32) (v8 : Int32) (v9 : Int32) (v10 : Int32) (v11 : Int32) (g : Nat → Int32) (ga : Nat → Int32) (o : Int32) : va_W := [(h0, .inr (11, [.ref h1, .ref h2, .ref h3, .ref h4, .ref h5, .int o, .int v2, .int v3, .int v4, .int v5, .ref h6, .int v6, .ref h7, .ref h8, .ref h9, .int v7, .int v8, .int v9, .int v10, .int v11])), (h1, .inl (cy 0, 64, .inl (g))), (h3, .inl (cy 0, 64, .inl (ga)))]
set_option maxHeartbeats 4000000 in
set_option maxRecDepth 100000 in
theorem c_X9_nextPlayer_1 (l : Launch) {E : zEn} (hE : zEok E) (D : zG) (cy : Nat → ClassId) (h0 h1 h2 h3 h4 h5 h6 h7 h8 h9 : Nat) (v1 : Int32) (v2 : Int32) (v3 : Int32) (v4 : Int32) (v5 : Int32) (v6 : Int32) (v7 : Int32) (v8 : Int32) (v9 : Int32) (v10 : Int32) (v11 : Int32) (g : Nat → Int32) (ga : Nat → Int32) (hr : ¬ g 0 = 1) (sz : Nat) : Met l yX9_nextPlayer (zws yX9_nextPlayer cX9_nextPlayer 4 (some .int)) { frames := 1, cells := 0, slots := 0, locals := 20 } (zPre E D cy [.ref h0] [(h0, .inr (11, [.ref h1, .ref h2, .ref h3, .ref h4, .ref h5, .int v1, .int v2, .int v3, .int v4, .int v5, .ref h6, .int v6, .ref h7, .ref h8, .ref h9, .int v7, .int v8, .int v9, .int v10, .int v11])), (h1, .inl (cy 0, 64, .inl (g))), (h3, .inl (cy 0, 64, .inl (ga)))] sz) (zQi D ((q_X9_nextPlayer_1 cy h0 h1 h2 h3 h4 h5 h6 h7 h8 h9 v2 v3 v4 v5 v6 v7 v8 v9 v10 v11 g ga) n_X9_nextPlayer_1) (va_A [(h0, .inr (11, [.ref h1, .ref h2, .ref h3, .ref h4, .ref h5, .int v1, .int v2, .int v3, .int v4, .int v5, .ref h6, .int v6, .ref h7, .ref h8, .ref h9, .int v7, .int v8, .int v9, .int v10, .int v11])), (h1, .inl (cy 0, 64, .inl (g))), (h3, .inl (cy 0, 64, .inl (ga)))] sz) (0)) 0 0 (va_A [(h0, .inr (11, [.ref h1, .ref h2, .ref h3, .ref h4, .ref h5, .int v1, .int v2, .int v3, .int v4, .int v5, .ref h6, .int v6, .ref h7, .ref h8, .ref h9, .int v7, .int v8, .int v9, .int v10, .int v11])), (h1, .inl (cy 0, 64, .inl (g))), (h3, .inl (cy 0, 64, .inl (ga)))] sz) := by
  refine z_of (Qc := fun A => zQi D ((q_X9_nextPlayer_1 cy h0 h1 h2 h3 h4 h5 h6 h7 h8 h9 v2 v3 v4 v5 v6 v7 v8 v9 v10 v11 g ga) n_X9_nextPlayer_1) A (0)) (by decide +kernel) (Nat.le_of_ble_eq_true rfl) rfl ?_
  intro pG eN sT mI below meth cO A ls C hRT hnm hA hP hD hS hE0 hl
  have hX := C.x
  have hB := C.b
  refine lv_aload_n hX hB dX9_nextPlayer_0 rfl (lv_at hl 0 rfl) ?_
  refine lv_aload_n hX hB dX9_nextPlayer_1 rfl (lv_at hl 0 rfl) ?_
  refine z_callVi (isC := [0, 1]) (isR := [2]) (isO := [1, 2, 0]) (()) (q_X9_runs_f cy h0 h1 h2 h3 h4 h5 h6 h7 h8 h9 v1 v2 v3 v4 v5 v6 v7 v8 v9 v10 v11 g) (fun o_1 => [(h0, .inr (11, [.ref h1, .ref h2, .ref h3, .ref h4, .ref h5, .int v1, .int v2, .int v3, .int v4, .int v5, .ref h6, .int v6, .ref h7, .ref h8, .ref h9, .int v7, .int v8, .int v9, .int v10, .int v11])), (h1, .inl (cy 0, 64, .inl (g))), (h3, .inl (cy 0, 64, .inl (ga)))]) (fun o_1 => 0) (c_X9_runs_f l hE D cy h0 h1 h2 h3 h4 h5 h6 h7 h8 h9 v1 v2 v3 v4 v5 v6 v7 v8 v9 v10 v11 g hr) hE C zs_X9_76 ⟨Nat.le_of_ble_eq_true rfl, Nat.le_of_ble_eq_true rfl⟩ hP hD hS hA hE0 ⟨rfl, rfl, rfl, by decide, rfl, rfl, rfl⟩ 0 rfl rfl rfl rfl hl.1 (Nat.le_of_ble_eq_true rfl) rfl dX9_nextPlayer_2 ⟨Nat.le_of_ble_eq_true rfl, Nat.le_of_ble_eq_true rfl⟩ (fun o_1 H locs eo_1 hP hD hS => ?_)
  refine lv_if_eq (tgt := 12) hX hB dX9_nextPlayer_5 (by decide) (fun _ => ?_) (fun c => absurd (by decide) c)
  refine lv_iconst (v := 1) hX hB dX9_nextPlayer_12 (by decide) ?_
  refine fp_X9_25 C hP hD hS 0 rfl rfl rfl (Nat.le_of_ble_eq_true rfl) (w' := [(h0, .inr (11, [.ref h1, .ref h2, .ref h3, .ref h4, .ref h5, .int 1, .int v2, .int v3, .int v4, .int v5, .ref h6, .int v6, .ref h7, .ref h8, .ref h9, .int v7, .int v8, .int v9, .int v10, .int v11])), (h1, .inl (cy 0, 64, .inl (g))), (h3, .inl (cy 0, 64, .inl (ga)))]) rfl dX9_nextPlayer_13 (fun H locs hP hD hS => ?_)
  refine lv_aload_n hX hB dX9_nextPlayer_16 rfl (lv_at hl 0 rfl) ?_
  refine fg_X9_25 C hP 0 rfl rfl dX9_nextPlayer_17 ?_
  refine lv_if_le (tgt := 25) hX hB dX9_nextPlayer_20 (by decide) (fun c => absurd c (by decide)) (fun _ => ?_)
  refine lv_iconst (v := 0) hX hB dX9_nextPlayer_23 (by decide) ?_
  exact z_iret' 1 (w' := q_X9_nextPlayer_1 cy h0 h1 h2 h3 h4 h5 h6 h7 h8 h9 v2 v3 v4 v5 v6 v7 v8 v9 v10 v11 g ga) (r0 := (fun (o : Int32) => 0)) (by simp only [n_X9_nextPlayer_1]) C hRT hP hD hS (Nat.le_of_ble_eq_true rfl) (Nat.le_of_ble_eq_true rfl) rfl rfl dX9_nextPlayer_24

end M4
