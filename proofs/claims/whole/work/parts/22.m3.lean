section M3
def n_X9_addPlayer_ok (v2 : Int32) (g : Nat → Int32) (gb : Nat → Int32) (gh : Nat → Int32) : Int32 × Int32 × Int32 × (Nat → Int32) × (Nat → Int32) × (Nat → Int32) :=
  let o_1 := n_X9_begin g gb
  let o_3 := n_X9_adds g
  let o_4 := n_X9_commit v2 o_1.2 gh o_3.1
  (o_4.1, o_1.1, o_4.2.1, o_3.2, o_1.2, o_4.2.2)
def q_X9_addPlayer_ok (cy : Nat → ClassId) (h0 : Nat) (h1 : Nat) (h2 : Nat) (h3 : Nat) (h4 : Nat) (h5 : Nat) (h6 : Nat) (h7 : Nat) (h8 : Nat) (h9 : Nat) (v3 : Int32) (v4 : Int32) (v5 : Int32) (v6 : Int32) (v7 : Int32) (v8 : Int32) (v9 : Int32) (v10 : Int32) (v11 : Int32) (o : Int32 × Int32 × Int32 × (Nat → Int32) × (Nat → Int32) × (Nat → Int32)) : va_W := [(h0, .inr (11, [.ref h1, .ref h2, .ref h3, .ref h4, .ref h5, .int o.2.1, .int o.2.2.1, .int v3, .int v4, .int v5, .ref h6, .int v6, .ref h7, .ref h8, .ref h9, .int v7, .int v8, .int v9, .int v10, .int v11])), (h1, .inl (cy 0, 64, .inl (o.2.2.2.1))), (h2, .inl (cy 0, 64, .inl (o.2.2.2.2.1))), (h5, .inl (cy 0, 512, .inl (o.2.2.2.2.2)))]
set_option maxHeartbeats 4000000 in
set_option maxRecDepth 100000 in
theorem c_X9_addPlayer_ok (l : Launch) {E : zEn} (hE : zEok E) (D : zG) (cy : Nat → ClassId) (h0 h1 h2 h3 h4 h5 h6 h7 h8 h9 : Nat) (v1 : Int32) (v2 : Int32) (v3 : Int32) (v4 : Int32) (v5 : Int32) (v6 : Int32) (v7 : Int32) (v8 : Int32) (v9 : Int32) (v10 : Int32) (v11 : Int32) (g : Nat → Int32) (gb : Nat → Int32) (gh : Nat → Int32) (hr : ¬ g 0 = 1) (hq : ¬ g 2 = 4) (hn : zle (g 2) 3) (hd : zle v2 8) (sz : Nat) : Met l yX9_addPlayer (zws yX9_addPlayer cX9_addPlayer 1 (some .int)) { frames := 2, cells := 0, slots := 0, locals := 46 } (zPre E D cy [.ref h0] [(h0, .inr (11, [.ref h1, .ref h2, .ref h3, .ref h4, .ref h5, .int v1, .int v2, .int v3, .int v4, .int v5, .ref h6, .int v6, .ref h7, .ref h8, .ref h9, .int v7, .int v8, .int v9, .int v10, .int v11])), (h1, .inl (cy 0, 64, .inl (g))), (h2, .inl (cy 0, 64, .inl (gb))), (h5, .inl (cy 0, 512, .inl (gh)))] sz) (zQi D ((q_X9_addPlayer_ok cy h0 h1 h2 h3 h4 h5 h6 h7 h8 h9 v3 v4 v5 v6 v7 v8 v9 v10 v11) (n_X9_addPlayer_ok v2 g gb gh)) (va_A [(h0, .inr (11, [.ref h1, .ref h2, .ref h3, .ref h4, .ref h5, .int v1, .int v2, .int v3, .int v4, .int v5, .ref h6, .int v6, .ref h7, .ref h8, .ref h9, .int v7, .int v8, .int v9, .int v10, .int v11])), (h1, .inl (cy 0, 64, .inl (g))), (h2, .inl (cy 0, 64, .inl (gb))), (h5, .inl (cy 0, 512, .inl (gh)))] sz) ((n_X9_addPlayer_ok v2 g gb gh).1)) 0 0 (va_A [(h0, .inr (11, [.ref h1, .ref h2, .ref h3, .ref h4, .ref h5, .int v1, .int v2, .int v3, .int v4, .int v5, .ref h6, .int v6, .ref h7, .ref h8, .ref h9, .int v7, .int v8, .int v9, .int v10, .int v11])), (h1, .inl (cy 0, 64, .inl (g))), (h2, .inl (cy 0, 64, .inl (gb))), (h5, .inl (cy 0, 512, .inl (gh)))] sz) := by
  refine z_of (Qc := fun A => zQi D ((q_X9_addPlayer_ok cy h0 h1 h2 h3 h4 h5 h6 h7 h8 h9 v3 v4 v5 v6 v7 v8 v9 v10 v11) (n_X9_addPlayer_ok v2 g gb gh)) A ((n_X9_addPlayer_ok v2 g gb gh).1)) (by decide +kernel) (Nat.le_of_ble_eq_true rfl) rfl ?_
  intro pG eN sT mI below meth cO A ls C hRT hnm hA hP hD hS hE0 hl
  have hX := C.x
  have hB := C.b
  have hn_ := hn.2
  have hd_ := hd.2
  refine lv_aload_n hX hB dX9_addPlayer_0 rfl (lv_at hl 0 rfl) ?_
  refine z_callVv (isC := [0, 1, 2]) (isR := [3]) (isO := [1, 2, 3, 0]) (n_X9_begin g gb) (q_X9_begin cy h0 h1 h2 h3 h4 h5 h6 h7 h8 h9 v2 v3 v4 v5 v6 v7 v8 v9 v10 v11 g) (fun o_1 => [(h0, .inr (11, [.ref h1, .ref h2, .ref h3, .ref h4, .ref h5, .int o_1.1, .int v2, .int v3, .int v4, .int v5, .ref h6, .int v6, .ref h7, .ref h8, .ref h9, .int v7, .int v8, .int v9, .int v10, .int v11])), (h1, .inl (cy 0, 64, .inl (g))), (h2, .inl (cy 0, 64, .inl (o_1.2))), (h5, .inl (cy 0, 512, .inl (gh)))]) (c_X9_begin l hE D cy h0 h1 h2 h3 h4 h5 h6 h7 h8 h9 v1 v2 v3 v4 v5 v6 v7 v8 v9 v10 v11 g gb ) hE C zs_X9_80 ⟨Nat.le_of_ble_eq_true rfl, Nat.le_of_ble_eq_true rfl⟩ hP hD hS hA hE0 ⟨rfl, rfl, rfl, by decide, rfl, rfl, rfl⟩ 0 rfl rfl rfl rfl hl.1 (Nat.le_of_ble_eq_true rfl) rfl dX9_addPlayer_1 ⟨Nat.le_of_ble_eq_true rfl, Nat.le_of_ble_eq_true rfl⟩ (fun o_1 H locs eo_1 hP hD hS => ?_)
  refine lv_aload_n hX hB dX9_addPlayer_4 rfl (lv_at hl 0 rfl) ?_
  refine z_callVi (isC := [0, 1]) (isR := [2, 3]) (isO := [2, 3, 0, 1]) (()) (q_X9_cannotAdd_ok cy h0 h1 h2 h3 h4 h5 h6 h7 h8 h9 o_1.1 v2 v3 v4 v5 v6 v7 v8 v9 v10 v11 g) (fun o_2 => [(h0, .inr (11, [.ref h1, .ref h2, .ref h3, .ref h4, .ref h5, .int o_1.1, .int v2, .int v3, .int v4, .int v5, .ref h6, .int v6, .ref h7, .ref h8, .ref h9, .int v7, .int v8, .int v9, .int v10, .int v11])), (h1, .inl (cy 0, 64, .inl (g))), (h2, .inl (cy 0, 64, .inl (o_1.2))), (h5, .inl (cy 0, 512, .inl (gh)))]) (fun o_2 => 0) (c_X9_cannotAdd_ok l hE D cy h0 h1 h2 h3 h4 h5 h6 h7 h8 h9 o_1.1 v2 v3 v4 v5 v6 v7 v8 v9 v10 v11 g hr hq) hE C zs_X9_83 ⟨Nat.le_of_ble_eq_true rfl, Nat.le_of_ble_eq_true rfl⟩ hP hD hS hA hE0 ⟨rfl, rfl, rfl, by decide, rfl, rfl, rfl⟩ 0 rfl rfl rfl rfl hl.1 (Nat.le_of_ble_eq_true rfl) rfl dX9_addPlayer_5 ⟨Nat.le_of_ble_eq_true rfl, Nat.le_of_ble_eq_true rfl⟩ (fun o_2 H locs eo_2 hP hD hS => ?_)
  refine lv_if_le (tgt := 19) hX hB dX9_addPlayer_8 (by decide) (fun _ => ?_) (fun c => absurd (by decide) c)
  refine lv_aload_n hX hB dX9_addPlayer_19 rfl (lv_at hl 0 rfl) ?_
  refine lv_aload_n hX hB dX9_addPlayer_20 rfl (lv_at hl 0 rfl) ?_
  refine z_callVi (isC := [0, 1]) (isR := [2, 3]) (isO := [2, 3, 0, 1]) (n_X9_adds g) (q_X9_adds cy h0 h1 h2 h3 h4 h5 h6 h7 h8 h9 o_1.1 v2 v3 v4 v5 v6 v7 v8 v9 v10 v11) (fun o_3 => [(h0, .inr (11, [.ref h1, .ref h2, .ref h3, .ref h4, .ref h5, .int o_1.1, .int v2, .int v3, .int v4, .int v5, .ref h6, .int v6, .ref h7, .ref h8, .ref h9, .int v7, .int v8, .int v9, .int v10, .int v11])), (h1, .inl (cy 0, 64, .inl (o_3.2))), (h2, .inl (cy 0, 64, .inl (o_1.2))), (h5, .inl (cy 0, 512, .inl (gh)))]) (fun o_3 => o_3.1) (c_X9_adds l hE D cy h0 h1 h2 h3 h4 h5 h6 h7 h8 h9 o_1.1 v2 v3 v4 v5 v6 v7 v8 v9 v10 v11 g (zle_of (zi_tr rfl hn.1) (by omega) (by decide))) hE C zs_X9_91 ⟨Nat.le_of_ble_eq_true rfl, Nat.le_of_ble_eq_true rfl⟩ hP hD hS hA hE0 ⟨rfl, rfl, rfl, by decide, rfl, rfl, rfl⟩ 0 rfl rfl rfl rfl hl.1 (Nat.le_of_ble_eq_true rfl) rfl dX9_addPlayer_21 ⟨Nat.le_of_ble_eq_true rfl, Nat.le_of_ble_eq_true rfl⟩ (fun o_3 H locs eo_3 hP hD hS => ?_)
  refine z_callVi (isC := [0, 2, 3]) (isR := [1]) (isO := [1, 0, 2, 3]) (n_X9_commit v2 o_1.2 gh o_3.1) (q_X9_commit cy h0 h1 h2 h3 h4 h5 h6 h7 h8 h9 o_1.1 v3 v4 v5 v6 v7 v8 v9 v10 v11 o_1.2) (fun o_4 => [(h0, .inr (11, [.ref h1, .ref h2, .ref h3, .ref h4, .ref h5, .int o_1.1, .int o_4.2.1, .int v3, .int v4, .int v5, .ref h6, .int v6, .ref h7, .ref h8, .ref h9, .int v7, .int v8, .int v9, .int v10, .int v11])), (h1, .inl (cy 0, 64, .inl (o_3.2))), (h2, .inl (cy 0, 64, .inl (o_1.2))), (h5, .inl (cy 0, 512, .inl (o_4.2.2)))]) (fun o_4 => o_4.1) (c_X9_commit l hE D cy h0 h1 h2 h3 h4 h5 h6 h7 h8 h9 o_1.1 v2 v3 v4 v5 v6 v7 v8 v9 v10 v11 o_1.2 gh o_3.1 (zle_of hd.1 (by omega) (by decide))) hE C zs_X9_94 ⟨Nat.le_of_ble_eq_true rfl, Nat.le_of_ble_eq_true rfl⟩ hP hD hS hA hE0 ⟨rfl, rfl, rfl, by decide, rfl, rfl, rfl⟩ 0 rfl rfl rfl rfl hl.1 (Nat.le_of_ble_eq_true rfl) rfl dX9_addPlayer_24 ⟨Nat.le_of_ble_eq_true rfl, Nat.le_of_ble_eq_true rfl⟩ (fun o_4 H locs eo_4 hP hD hS => ?_)
  exact z_iret' (o_4.1, o_1.1, o_4.2.1, o_3.2, o_1.2, o_4.2.2) (w' := q_X9_addPlayer_ok cy h0 h1 h2 h3 h4 h5 h6 h7 h8 h9 v3 v4 v5 v6 v7 v8 v9 v10 v11) (r0 := (fun (o : Int32 × Int32 × Int32 × (Nat → Int32) × (Nat → Int32) × (Nat → Int32)) => o.1)) (by simp only [n_X9_addPlayer_ok, ← eo_1, ← eo_3, ← eo_4]) C hRT hP hD hS (Nat.le_of_ble_eq_true rfl) (Nat.le_of_ble_eq_true rfl) rfl rfl dX9_addPlayer_27

def n_X9_addPlayer_1 (g : Nat → Int32) (gb : Nat → Int32) : Int32 × (Nat → Int32) :=
  let o_1 := n_X9_begin g gb
  let o_3 := n_X9_fail 1
  (o_3, o_1.2)
def q_X9_addPlayer_1 (cy : Nat → ClassId) (h0 : Nat) (h1 : Nat) (h2 : Nat) (h3 : Nat) (h4 : Nat) (h5 : Nat) (h6 : Nat) (h7 : Nat) (h8 : Nat) (h9 : Nat) (v2 : Int32) (v3 : Int32) (v4 : Int32) (v5 : Int32) (v6 : Int32) (v7 : Int32) (v8 : Int32) (v9 : Int32) (v10 : Int32) (v11 : Int32) (g : Nat → Int32) (gh : Nat → Int32) (o : Int32 × (Nat → Int32)) : va_W := [(h0, .inr (11, [.ref h1, .ref h2, .ref h3, .ref h4, .ref h5, .int o.1, .int v2, .int v3, .int v4, .int v5, .ref h6, .int v6, .ref h7, .ref h8, .ref h9, .int v7, .int v8, .int v9, .int v10, .int v11])), (h1, .inl (cy 0, 64, .inl (g))), (h2, .inl (cy 0, 64, .inl (o.2))), (h5, .inl (cy 0, 512, .inl (gh)))]
set_option maxHeartbeats 4000000 in
set_option maxRecDepth 100000 in
theorem c_X9_addPlayer_1 (l : Launch) {E : zEn} (hE : zEok E) (D : zG) (cy : Nat → ClassId) (h0 h1 h2 h3 h4 h5 h6 h7 h8 h9 : Nat) (v1 : Int32) (v2 : Int32) (v3 : Int32) (v4 : Int32) (v5 : Int32) (v6 : Int32) (v7 : Int32) (v8 : Int32) (v9 : Int32) (v10 : Int32) (v11 : Int32) (g : Nat → Int32) (gb : Nat → Int32) (gh : Nat → Int32) (hr : g 0 = 1) (hd : zle v2 8) (sz : Nat) : Met l yX9_addPlayer (zws yX9_addPlayer cX9_addPlayer 1 (some .int)) { frames := 2, cells := 0, slots := 0, locals := 44 } (zPre E D cy [.ref h0] [(h0, .inr (11, [.ref h1, .ref h2, .ref h3, .ref h4, .ref h5, .int v1, .int v2, .int v3, .int v4, .int v5, .ref h6, .int v6, .ref h7, .ref h8, .ref h9, .int v7, .int v8, .int v9, .int v10, .int v11])), (h1, .inl (cy 0, 64, .inl (g))), (h2, .inl (cy 0, 64, .inl (gb))), (h5, .inl (cy 0, 512, .inl (gh)))] sz) (zQi D ((q_X9_addPlayer_1 cy h0 h1 h2 h3 h4 h5 h6 h7 h8 h9 v2 v3 v4 v5 v6 v7 v8 v9 v10 v11 g gh) (n_X9_addPlayer_1 g gb)) (va_A [(h0, .inr (11, [.ref h1, .ref h2, .ref h3, .ref h4, .ref h5, .int v1, .int v2, .int v3, .int v4, .int v5, .ref h6, .int v6, .ref h7, .ref h8, .ref h9, .int v7, .int v8, .int v9, .int v10, .int v11])), (h1, .inl (cy 0, 64, .inl (g))), (h2, .inl (cy 0, 64, .inl (gb))), (h5, .inl (cy 0, 512, .inl (gh)))] sz) (0)) 0 0 (va_A [(h0, .inr (11, [.ref h1, .ref h2, .ref h3, .ref h4, .ref h5, .int v1, .int v2, .int v3, .int v4, .int v5, .ref h6, .int v6, .ref h7, .ref h8, .ref h9, .int v7, .int v8, .int v9, .int v10, .int v11])), (h1, .inl (cy 0, 64, .inl (g))), (h2, .inl (cy 0, 64, .inl (gb))), (h5, .inl (cy 0, 512, .inl (gh)))] sz) := by
  refine z_of (Qc := fun A => zQi D ((q_X9_addPlayer_1 cy h0 h1 h2 h3 h4 h5 h6 h7 h8 h9 v2 v3 v4 v5 v6 v7 v8 v9 v10 v11 g gh) (n_X9_addPlayer_1 g gb)) A (0)) (by decide +kernel) (Nat.le_of_ble_eq_true rfl) rfl ?_
  intro pG eN sT mI below meth cO A ls C hRT hnm hA hP hD hS hE0 hl
  have hX := C.x
  have hB := C.b
  have hd_ := hd.2
  refine lv_aload_n hX hB dX9_addPlayer_0 rfl (lv_at hl 0 rfl) ?_
  refine z_callVv (isC := [0, 1, 2]) (isR := [3]) (isO := [1, 2, 3, 0]) (n_X9_begin g gb) (q_X9_begin cy h0 h1 h2 h3 h4 h5 h6 h7 h8 h9 v2 v3 v4 v5 v6 v7 v8 v9 v10 v11 g) (fun o_1 => [(h0, .inr (11, [.ref h1, .ref h2, .ref h3, .ref h4, .ref h5, .int o_1.1, .int v2, .int v3, .int v4, .int v5, .ref h6, .int v6, .ref h7, .ref h8, .ref h9, .int v7, .int v8, .int v9, .int v10, .int v11])), (h1, .inl (cy 0, 64, .inl (g))), (h2, .inl (cy 0, 64, .inl (o_1.2))), (h5, .inl (cy 0, 512, .inl (gh)))]) (c_X9_begin l hE D cy h0 h1 h2 h3 h4 h5 h6 h7 h8 h9 v1 v2 v3 v4 v5 v6 v7 v8 v9 v10 v11 g gb ) hE C zs_X9_80 ⟨Nat.le_of_ble_eq_true rfl, Nat.le_of_ble_eq_true rfl⟩ hP hD hS hA hE0 ⟨rfl, rfl, rfl, by decide, rfl, rfl, rfl⟩ 0 rfl rfl rfl rfl hl.1 (Nat.le_of_ble_eq_true rfl) rfl dX9_addPlayer_1 ⟨Nat.le_of_ble_eq_true rfl, Nat.le_of_ble_eq_true rfl⟩ (fun o_1 H locs eo_1 hP hD hS => ?_)
  refine lv_aload_n hX hB dX9_addPlayer_4 rfl (lv_at hl 0 rfl) ?_
  refine z_callVi (isC := [0, 1]) (isR := [2, 3]) (isO := [2, 3, 0, 1]) (()) (q_X9_cannotAdd_1 cy h0 h1 h2 h3 h4 h5 h6 h7 h8 h9 o_1.1 v2 v3 v4 v5 v6 v7 v8 v9 v10 v11 g) (fun o_2 => [(h0, .inr (11, [.ref h1, .ref h2, .ref h3, .ref h4, .ref h5, .int o_1.1, .int v2, .int v3, .int v4, .int v5, .ref h6, .int v6, .ref h7, .ref h8, .ref h9, .int v7, .int v8, .int v9, .int v10, .int v11])), (h1, .inl (cy 0, 64, .inl (g))), (h2, .inl (cy 0, 64, .inl (o_1.2))), (h5, .inl (cy 0, 512, .inl (gh)))]) (fun o_2 => 1) (c_X9_cannotAdd_1 l hE D cy h0 h1 h2 h3 h4 h5 h6 h7 h8 h9 o_1.1 v2 v3 v4 v5 v6 v7 v8 v9 v10 v11 g hr) hE C zs_X9_83 ⟨Nat.le_of_ble_eq_true rfl, Nat.le_of_ble_eq_true rfl⟩ hP hD hS hA hE0 ⟨rfl, rfl, rfl, by decide, rfl, rfl, rfl⟩ 0 rfl rfl rfl rfl hl.1 (Nat.le_of_ble_eq_true rfl) rfl dX9_addPlayer_5 ⟨Nat.le_of_ble_eq_true rfl, Nat.le_of_ble_eq_true rfl⟩ (fun o_2 H locs eo_2 hP hD hS => ?_)
  refine lv_if_le (tgt := 19) hX hB dX9_addPlayer_8 (by decide) (fun c => absurd c (by decide)) (fun _ => ?_)
  refine lv_aload_n hX hB dX9_addPlayer_11 rfl (lv_at hl 0 rfl) ?_
  refine lv_iconst (v := 1) hX hB dX9_addPlayer_12 (by decide) ?_
  refine z_callVi (isC := [0]) (isR := [1, 2, 3]) (isO := [3, 0, 1, 2]) (n_X9_fail 1) (q_X9_fail h0 h1 h2 h3 h4 h5 h6 h7 h8 h9 v2 v3 v4 v5 v6 v7 v8 v9 v10 v11) (fun o_3 => [(h0, .inr (11, [.ref h1, .ref h2, .ref h3, .ref h4, .ref h5, .int o_3, .int v2, .int v3, .int v4, .int v5, .ref h6, .int v6, .ref h7, .ref h8, .ref h9, .int v7, .int v8, .int v9, .int v10, .int v11])), (h1, .inl (cy 0, 64, .inl (g))), (h2, .inl (cy 0, 64, .inl (o_1.2))), (h5, .inl (cy 0, 512, .inl (gh)))]) (fun o_3 => 0) (c_X9_fail l hE D cy h0 h1 h2 h3 h4 h5 h6 h7 h8 h9 o_1.1 v2 v3 v4 v5 v6 v7 v8 v9 v10 v11 1 ) hE C zs_X9_87 ⟨Nat.le_of_ble_eq_true rfl, Nat.le_of_ble_eq_true rfl⟩ hP hD hS hA hE0 ⟨rfl, rfl, rfl, by decide, rfl, rfl, rfl⟩ 0 rfl rfl rfl rfl hl.1 (Nat.le_of_ble_eq_true rfl) rfl dX9_addPlayer_13 ⟨Nat.le_of_ble_eq_true rfl, Nat.le_of_ble_eq_true rfl⟩ (fun o_3 H locs eo_3 hP hD hS => ?_)
  refine lv_goto (tgt := 27) hX hB dX9_addPlayer_16 (by decide) ?_
  exact z_iret' (o_3, o_1.2) (w' := q_X9_addPlayer_1 cy h0 h1 h2 h3 h4 h5 h6 h7 h8 h9 v2 v3 v4 v5 v6 v7 v8 v9 v10 v11 g gh) (r0 := (fun (o : Int32 × (Nat → Int32)) => 0)) (by simp only [n_X9_addPlayer_1, ← eo_1, ← eo_3]) C hRT hP hD hS (Nat.le_of_ble_eq_true rfl) (Nat.le_of_ble_eq_true rfl) rfl rfl dX9_addPlayer_27

def n_X9_addPlayer_2 (g : Nat → Int32) (gb : Nat → Int32) : Int32 × (Nat → Int32) :=
  let o_1 := n_X9_begin g gb
  let o_3 := n_X9_fail 1
  (o_3, o_1.2)
def q_X9_addPlayer_2 (cy : Nat → ClassId) (h0 : Nat) (h1 : Nat) (h2 : Nat) (h3 : Nat) (h4 : Nat) (h5 : Nat) (h6 : Nat) (h7 : Nat) (h8 : Nat) (h9 : Nat) (v2 : Int32) (v3 : Int32) (v4 : Int32) (v5 : Int32) (v6 : Int32) (v7 : Int32) (v8 : Int32) (v9 : Int32) (v10 : Int32) (v11 : Int32) (g : Nat → Int32) (gh : Nat → Int32) (o : Int32 × (Nat → Int32)) : va_W := [(h0, .inr (11, [.ref h1, .ref h2, .ref h3, .ref h4, .ref h5, .int o.1, .int v2, .int v3, .int v4, .int v5, .ref h6, .int v6, .ref h7, .ref h8, .ref h9, .int v7, .int v8, .int v9, .int v10, .int v11])), (h1, .inl (cy 0, 64, .inl (g))), (h2, .inl (cy 0, 64, .inl (o.2))), (h5, .inl (cy 0, 512, .inl (gh)))]
set_option maxHeartbeats 4000000 in
set_option maxRecDepth 100000 in
theorem c_X9_addPlayer_2 (l : Launch) {E : zEn} (hE : zEok E) (D : zG) (cy : Nat → ClassId) (h0 h1 h2 h3 h4 h5 h6 h7 h8 h9 : Nat) (v1 : Int32) (v2 : Int32) (v3 : Int32) (v4 : Int32) (v5 : Int32) (v6 : Int32) (v7 : Int32) (v8 : Int32) (v9 : Int32) (v10 : Int32) (v11 : Int32) (g : Nat → Int32) (gb : Nat → Int32) (gh : Nat → Int32) (hr : ¬ g 0 = 1) (hq : g 2 = 4) (hd : zle v2 8) (sz : Nat) : Met l yX9_addPlayer (zws yX9_addPlayer cX9_addPlayer 1 (some .int)) { frames := 2, cells := 0, slots := 0, locals := 44 } (zPre E D cy [.ref h0] [(h0, .inr (11, [.ref h1, .ref h2, .ref h3, .ref h4, .ref h5, .int v1, .int v2, .int v3, .int v4, .int v5, .ref h6, .int v6, .ref h7, .ref h8, .ref h9, .int v7, .int v8, .int v9, .int v10, .int v11])), (h1, .inl (cy 0, 64, .inl (g))), (h2, .inl (cy 0, 64, .inl (gb))), (h5, .inl (cy 0, 512, .inl (gh)))] sz) (zQi D ((q_X9_addPlayer_2 cy h0 h1 h2 h3 h4 h5 h6 h7 h8 h9 v2 v3 v4 v5 v6 v7 v8 v9 v10 v11 g gh) (n_X9_addPlayer_2 g gb)) (va_A [(h0, .inr (11, [.ref h1, .ref h2, .ref h3, .ref h4, .ref h5, .int v1, .int v2, .int v3, .int v4, .int v5, .ref h6, .int v6, .ref h7, .ref h8, .ref h9, .int v7, .int v8, .int v9, .int v10, .int v11])), (h1, .inl (cy 0, 64, .inl (g))), (h2, .inl (cy 0, 64, .inl (gb))), (h5, .inl (cy 0, 512, .inl (gh)))] sz) (0)) 0 0 (va_A [(h0, .inr (11, [.ref h1, .ref h2, .ref h3, .ref h4, .ref h5, .int v1, .int v2, .int v3, .int v4, .int v5, .ref h6, .int v6, .ref h7, .ref h8, .ref h9, .int v7, .int v8, .int v9, .int v10, .int v11])), (h1, .inl (cy 0, 64, .inl (g))), (h2, .inl (cy 0, 64, .inl (gb))), (h5, .inl (cy 0, 512, .inl (gh)))] sz) := by
  refine z_of (Qc := fun A => zQi D ((q_X9_addPlayer_2 cy h0 h1 h2 h3 h4 h5 h6 h7 h8 h9 v2 v3 v4 v5 v6 v7 v8 v9 v10 v11 g gh) (n_X9_addPlayer_2 g gb)) A (0)) (by decide +kernel) (Nat.le_of_ble_eq_true rfl) rfl ?_
  intro pG eN sT mI below meth cO A ls C hRT hnm hA hP hD hS hE0 hl
  have hX := C.x
  have hB := C.b
  have hd_ := hd.2
  refine lv_aload_n hX hB dX9_addPlayer_0 rfl (lv_at hl 0 rfl) ?_
  refine z_callVv (isC := [0, 1, 2]) (isR := [3]) (isO := [1, 2, 3, 0]) (n_X9_begin g gb) (q_X9_begin cy h0 h1 h2 h3 h4 h5 h6 h7 h8 h9 v2 v3 v4 v5 v6 v7 v8 v9 v10 v11 g) (fun o_1 => [(h0, .inr (11, [.ref h1, .ref h2, .ref h3, .ref h4, .ref h5, .int o_1.1, .int v2, .int v3, .int v4, .int v5, .ref h6, .int v6, .ref h7, .ref h8, .ref h9, .int v7, .int v8, .int v9, .int v10, .int v11])), (h1, .inl (cy 0, 64, .inl (g))), (h2, .inl (cy 0, 64, .inl (o_1.2))), (h5, .inl (cy 0, 512, .inl (gh)))]) (c_X9_begin l hE D cy h0 h1 h2 h3 h4 h5 h6 h7 h8 h9 v1 v2 v3 v4 v5 v6 v7 v8 v9 v10 v11 g gb ) hE C zs_X9_80 ⟨Nat.le_of_ble_eq_true rfl, Nat.le_of_ble_eq_true rfl⟩ hP hD hS hA hE0 ⟨rfl, rfl, rfl, by decide, rfl, rfl, rfl⟩ 0 rfl rfl rfl rfl hl.1 (Nat.le_of_ble_eq_true rfl) rfl dX9_addPlayer_1 ⟨Nat.le_of_ble_eq_true rfl, Nat.le_of_ble_eq_true rfl⟩ (fun o_1 H locs eo_1 hP hD hS => ?_)
  refine lv_aload_n hX hB dX9_addPlayer_4 rfl (lv_at hl 0 rfl) ?_
  refine z_callVi (isC := [0, 1]) (isR := [2, 3]) (isO := [2, 3, 0, 1]) (()) (q_X9_cannotAdd_2 cy h0 h1 h2 h3 h4 h5 h6 h7 h8 h9 o_1.1 v2 v3 v4 v5 v6 v7 v8 v9 v10 v11 g) (fun o_2 => [(h0, .inr (11, [.ref h1, .ref h2, .ref h3, .ref h4, .ref h5, .int o_1.1, .int v2, .int v3, .int v4, .int v5, .ref h6, .int v6, .ref h7, .ref h8, .ref h9, .int v7, .int v8, .int v9, .int v10, .int v11])), (h1, .inl (cy 0, 64, .inl (g))), (h2, .inl (cy 0, 64, .inl (o_1.2))), (h5, .inl (cy 0, 512, .inl (gh)))]) (fun o_2 => 1) (c_X9_cannotAdd_2 l hE D cy h0 h1 h2 h3 h4 h5 h6 h7 h8 h9 o_1.1 v2 v3 v4 v5 v6 v7 v8 v9 v10 v11 g hr hq) hE C zs_X9_83 ⟨Nat.le_of_ble_eq_true rfl, Nat.le_of_ble_eq_true rfl⟩ hP hD hS hA hE0 ⟨rfl, rfl, rfl, by decide, rfl, rfl, rfl⟩ 0 rfl rfl rfl rfl hl.1 (Nat.le_of_ble_eq_true rfl) rfl dX9_addPlayer_5 ⟨Nat.le_of_ble_eq_true rfl, Nat.le_of_ble_eq_true rfl⟩ (fun o_2 H locs eo_2 hP hD hS => ?_)
  refine lv_if_le (tgt := 19) hX hB dX9_addPlayer_8 (by decide) (fun c => absurd c (by decide)) (fun _ => ?_)
  refine lv_aload_n hX hB dX9_addPlayer_11 rfl (lv_at hl 0 rfl) ?_
  refine lv_iconst (v := 1) hX hB dX9_addPlayer_12 (by decide) ?_
  refine z_callVi (isC := [0]) (isR := [1, 2, 3]) (isO := [3, 0, 1, 2]) (n_X9_fail 1) (q_X9_fail h0 h1 h2 h3 h4 h5 h6 h7 h8 h9 v2 v3 v4 v5 v6 v7 v8 v9 v10 v11) (fun o_3 => [(h0, .inr (11, [.ref h1, .ref h2, .ref h3, .ref h4, .ref h5, .int o_3, .int v2, .int v3, .int v4, .int v5, .ref h6, .int v6, .ref h7, .ref h8, .ref h9, .int v7, .int v8, .int v9, .int v10, .int v11])), (h1, .inl (cy 0, 64, .inl (g))), (h2, .inl (cy 0, 64, .inl (o_1.2))), (h5, .inl (cy 0, 512, .inl (gh)))]) (fun o_3 => 0) (c_X9_fail l hE D cy h0 h1 h2 h3 h4 h5 h6 h7 h8 h9 o_1.1 v2 v3 v4 v5 v6 v7 v8 v9 v10 v11 1 ) hE C zs_X9_87 ⟨Nat.le_of_ble_eq_true rfl, Nat.le_of_ble_eq_true rfl⟩ hP hD hS hA hE0 ⟨rfl, rfl, rfl, by decide, rfl, rfl, rfl⟩ 0 rfl rfl rfl rfl hl.1 (Nat.le_of_ble_eq_true rfl) rfl dX9_addPlayer_13 ⟨Nat.le_of_ble_eq_true rfl, Nat.le_of_ble_eq_true rfl⟩ (fun o_3 H locs eo_3 hP hD hS => ?_)
  refine lv_goto (tgt := 27) hX hB dX9_addPlayer_16 (by decide) ?_
  exact z_iret' (o_3, o_1.2) (w' := q_X9_addPlayer_2 cy h0 h1 h2 h3 h4 h5 h6 h7 h8 h9 v2 v3 v4 v5 v6 v7 v8 v9 v10 v11 g gh) (r0 := (fun (o : Int32 × (Nat → Int32)) => 0)) (by simp only [n_X9_addPlayer_2, ← eo_1, ← eo_3]) C hRT hP hD hS (Nat.le_of_ble_eq_true rfl) (Nat.le_of_ble_eq_true rfl) rfl rfl dX9_addPlayer_27

def n_X9_startGame_ok (v2 : Int32) (g : Nat → Int32) (gb : Nat → Int32) (gh : Nat → Int32) : Int32 × Int32 × Int32 × (Nat → Int32) × (Nat → Int32) × (Nat → Int32) :=
  let o_1 := n_X9_begin g gb
  let o_3 := n_X9_starts g
  let o_4 := n_X9_commit v2 o_1.2 gh o_3.1
  (o_4.1, o_1.1, o_4.2.1, o_3.2, o_1.2, o_4.2.2)
def q_X9_startGame_ok (cy : Nat → ClassId) (h0 : Nat) (h1 : Nat) (h2 : Nat) (h3 : Nat) (h4 : Nat) (h5 : Nat) (h6 : Nat) (h7 : Nat) (h8 : Nat) (h9 : Nat) (v3 : Int32) (v4 : Int32) (v5 : Int32) (v6 : Int32) (v7 : Int32) (v8 : Int32) (v9 : Int32) (v10 : Int32) (v11 : Int32) (o : Int32 × Int32 × Int32 × (Nat → Int32) × (Nat → Int32) × (Nat → Int32)) : va_W := [(h0, .inr (11, [.ref h1, .ref h2, .ref h3, .ref h4, .ref h5, .int o.2.1, .int o.2.2.1, .int v3, .int v4, .int v5, .ref h6, .int v6, .ref h7, .ref h8, .ref h9, .int v7, .int v8, .int v9, .int v10, .int v11])), (h1, .inl (cy 0, 64, .inl (o.2.2.2.1))), (h2, .inl (cy 0, 64, .inl (o.2.2.2.2.1))), (h5, .inl (cy 0, 512, .inl (o.2.2.2.2.2)))]
set_option maxHeartbeats 4000000 in
set_option maxRecDepth 100000 in
theorem c_X9_startGame_ok (l : Launch) {E : zEn} (hE : zEok E) (D : zG) (cy : Nat → ClassId) (h0 h1 h2 h3 h4 h5 h6 h7 h8 h9 : Nat) (v1 : Int32) (v2 : Int32) (v3 : Int32) (v4 : Int32) (v5 : Int32) (v6 : Int32) (v7 : Int32) (v8 : Int32) (v9 : Int32) (v10 : Int32) (v11 : Int32) (g : Nat → Int32) (gb : Nat → Int32) (gh : Nat → Int32) (hr : ¬ g 0 = 1) (hq : ¬ g 2 = 0) (hd : zle v2 8) (sz : Nat) : Met l yX9_startGame (zws yX9_startGame cX9_startGame 2 (some .int)) { frames := 2, cells := 0, slots := 0, locals := 46 } (zPre E D cy [.ref h0] [(h0, .inr (11, [.ref h1, .ref h2, .ref h3, .ref h4, .ref h5, .int v1, .int v2, .int v3, .int v4, .int v5, .ref h6, .int v6, .ref h7, .ref h8, .ref h9, .int v7, .int v8, .int v9, .int v10, .int v11])), (h1, .inl (cy 0, 64, .inl (g))), (h2, .inl (cy 0, 64, .inl (gb))), (h5, .inl (cy 0, 512, .inl (gh)))] sz) (zQi D ((q_X9_startGame_ok cy h0 h1 h2 h3 h4 h5 h6 h7 h8 h9 v3 v4 v5 v6 v7 v8 v9 v10 v11) (n_X9_startGame_ok v2 g gb gh)) (va_A [(h0, .inr (11, [.ref h1, .ref h2, .ref h3, .ref h4, .ref h5, .int v1, .int v2, .int v3, .int v4, .int v5, .ref h6, .int v6, .ref h7, .ref h8, .ref h9, .int v7, .int v8, .int v9, .int v10, .int v11])), (h1, .inl (cy 0, 64, .inl (g))), (h2, .inl (cy 0, 64, .inl (gb))), (h5, .inl (cy 0, 512, .inl (gh)))] sz) ((n_X9_startGame_ok v2 g gb gh).1)) 0 0 (va_A [(h0, .inr (11, [.ref h1, .ref h2, .ref h3, .ref h4, .ref h5, .int v1, .int v2, .int v3, .int v4, .int v5, .ref h6, .int v6, .ref h7, .ref h8, .ref h9, .int v7, .int v8, .int v9, .int v10, .int v11])), (h1, .inl (cy 0, 64, .inl (g))), (h2, .inl (cy 0, 64, .inl (gb))), (h5, .inl (cy 0, 512, .inl (gh)))] sz) := by
  refine z_of (Qc := fun A => zQi D ((q_X9_startGame_ok cy h0 h1 h2 h3 h4 h5 h6 h7 h8 h9 v3 v4 v5 v6 v7 v8 v9 v10 v11) (n_X9_startGame_ok v2 g gb gh)) A ((n_X9_startGame_ok v2 g gb gh).1)) (by decide +kernel) (Nat.le_of_ble_eq_true rfl) rfl ?_
  intro pG eN sT mI below meth cO A ls C hRT hnm hA hP hD hS hE0 hl
  have hX := C.x
  have hB := C.b
  have hd_ := hd.2
  refine lv_aload_n hX hB dX9_startGame_0 rfl (lv_at hl 0 rfl) ?_
  refine z_callVv (isC := [0, 1, 2]) (isR := [3]) (isO := [1, 2, 3, 0]) (n_X9_begin g gb) (q_X9_begin cy h0 h1 h2 h3 h4 h5 h6 h7 h8 h9 v2 v3 v4 v5 v6 v7 v8 v9 v10 v11 g) (fun o_1 => [(h0, .inr (11, [.ref h1, .ref h2, .ref h3, .ref h4, .ref h5, .int o_1.1, .int v2, .int v3, .int v4, .int v5, .ref h6, .int v6, .ref h7, .ref h8, .ref h9, .int v7, .int v8, .int v9, .int v10, .int v11])), (h1, .inl (cy 0, 64, .inl (g))), (h2, .inl (cy 0, 64, .inl (o_1.2))), (h5, .inl (cy 0, 512, .inl (gh)))]) (c_X9_begin l hE D cy h0 h1 h2 h3 h4 h5 h6 h7 h8 h9 v1 v2 v3 v4 v5 v6 v7 v8 v9 v10 v11 g gb ) hE C zs_X9_80 ⟨Nat.le_of_ble_eq_true rfl, Nat.le_of_ble_eq_true rfl⟩ hP hD hS hA hE0 ⟨rfl, rfl, rfl, by decide, rfl, rfl, rfl⟩ 0 rfl rfl rfl rfl hl.1 (Nat.le_of_ble_eq_true rfl) rfl dX9_startGame_1 ⟨Nat.le_of_ble_eq_true rfl, Nat.le_of_ble_eq_true rfl⟩ (fun o_1 H locs eo_1 hP hD hS => ?_)
  refine lv_aload_n hX hB dX9_startGame_4 rfl (lv_at hl 0 rfl) ?_
  refine z_callVi (isC := [0, 1]) (isR := [2, 3]) (isO := [2, 3, 0, 1]) (()) (q_X9_cannotStart_ok cy h0 h1 h2 h3 h4 h5 h6 h7 h8 h9 o_1.1 v2 v3 v4 v5 v6 v7 v8 v9 v10 v11 g) (fun o_2 => [(h0, .inr (11, [.ref h1, .ref h2, .ref h3, .ref h4, .ref h5, .int o_1.1, .int v2, .int v3, .int v4, .int v5, .ref h6, .int v6, .ref h7, .ref h8, .ref h9, .int v7, .int v8, .int v9, .int v10, .int v11])), (h1, .inl (cy 0, 64, .inl (g))), (h2, .inl (cy 0, 64, .inl (o_1.2))), (h5, .inl (cy 0, 512, .inl (gh)))]) (fun o_2 => 0) (c_X9_cannotStart_ok l hE D cy h0 h1 h2 h3 h4 h5 h6 h7 h8 h9 o_1.1 v2 v3 v4 v5 v6 v7 v8 v9 v10 v11 g hr hq) hE C zs_X9_100 ⟨Nat.le_of_ble_eq_true rfl, Nat.le_of_ble_eq_true rfl⟩ hP hD hS hA hE0 ⟨rfl, rfl, rfl, by decide, rfl, rfl, rfl⟩ 0 rfl rfl rfl rfl hl.1 (Nat.le_of_ble_eq_true rfl) rfl dX9_startGame_5 ⟨Nat.le_of_ble_eq_true rfl, Nat.le_of_ble_eq_true rfl⟩ (fun o_2 H locs eo_2 hP hD hS => ?_)
  refine lv_istore_n (lv' := [(1, .int 0), (0, .ref h0)]) hX hB dX9_startGame_8 rfl hl (by decide) rfl (fun ls hl => ?_)
  refine lv_iload_n hX hB dX9_startGame_9 rfl (lv_at hl 0 rfl) ?_
  refine lv_if_le (tgt := 21) hX hB dX9_startGame_10 (by decide) (fun _ => ?_) (fun c => absurd (by decide) c)
  refine lv_aload_n hX hB dX9_startGame_21 rfl (lv_at hl 1 rfl) ?_
  refine lv_aload_n hX hB dX9_startGame_22 rfl (lv_at hl 1 rfl) ?_
  refine z_callVi (isC := [0, 1]) (isR := [2, 3]) (isO := [2, 3, 0, 1]) (n_X9_starts g) (q_X9_starts cy h0 h1 h2 h3 h4 h5 h6 h7 h8 h9 o_1.1 v2 v3 v4 v5 v6 v7 v8 v9 v10 v11) (fun o_3 => [(h0, .inr (11, [.ref h1, .ref h2, .ref h3, .ref h4, .ref h5, .int o_1.1, .int v2, .int v3, .int v4, .int v5, .ref h6, .int v6, .ref h7, .ref h8, .ref h9, .int v7, .int v8, .int v9, .int v10, .int v11])), (h1, .inl (cy 0, 64, .inl (o_3.2))), (h2, .inl (cy 0, 64, .inl (o_1.2))), (h5, .inl (cy 0, 512, .inl (gh)))]) (fun o_3 => o_3.1) (c_X9_starts l hE D cy h0 h1 h2 h3 h4 h5 h6 h7 h8 h9 o_1.1 v2 v3 v4 v5 v6 v7 v8 v9 v10 v11 g ) hE C zs_X9_103 ⟨Nat.le_of_ble_eq_true rfl, Nat.le_of_ble_eq_true rfl⟩ hP hD hS hA hE0 ⟨rfl, rfl, rfl, by decide, rfl, rfl, rfl⟩ 0 rfl rfl rfl rfl hl.1 (Nat.le_of_ble_eq_true rfl) rfl dX9_startGame_23 ⟨Nat.le_of_ble_eq_true rfl, Nat.le_of_ble_eq_true rfl⟩ (fun o_3 H locs eo_3 hP hD hS => ?_)
  refine z_callVi (isC := [0, 2, 3]) (isR := [1]) (isO := [1, 0, 2, 3]) (n_X9_commit v2 o_1.2 gh o_3.1) (q_X9_commit cy h0 h1 h2 h3 h4 h5 h6 h7 h8 h9 o_1.1 v3 v4 v5 v6 v7 v8 v9 v10 v11 o_1.2) (fun o_4 => [(h0, .inr (11, [.ref h1, .ref h2, .ref h3, .ref h4, .ref h5, .int o_1.1, .int o_4.2.1, .int v3, .int v4, .int v5, .ref h6, .int v6, .ref h7, .ref h8, .ref h9, .int v7, .int v8, .int v9, .int v10, .int v11])), (h1, .inl (cy 0, 64, .inl (o_3.2))), (h2, .inl (cy 0, 64, .inl (o_1.2))), (h5, .inl (cy 0, 512, .inl (o_4.2.2)))]) (fun o_4 => o_4.1) (c_X9_commit l hE D cy h0 h1 h2 h3 h4 h5 h6 h7 h8 h9 o_1.1 v2 v3 v4 v5 v6 v7 v8 v9 v10 v11 o_1.2 gh o_3.1 (zle_of hd.1 (by omega) (by decide))) hE C zs_X9_94 ⟨Nat.le_of_ble_eq_true rfl, Nat.le_of_ble_eq_true rfl⟩ hP hD hS hA hE0 ⟨rfl, rfl, rfl, by decide, rfl, rfl, rfl⟩ 0 rfl rfl rfl rfl hl.1 (Nat.le_of_ble_eq_true rfl) rfl dX9_startGame_26 ⟨Nat.le_of_ble_eq_true rfl, Nat.le_of_ble_eq_true rfl⟩ (fun o_4 H locs eo_4 hP hD hS => ?_)
  exact z_iret' (o_4.1, o_1.1, o_4.2.1, o_3.2, o_1.2, o_4.2.2) (w' := q_X9_startGame_ok cy h0 h1 h2 h3 h4 h5 h6 h7 h8 h9 v3 v4 v5 v6 v7 v8 v9 v10 v11) (r0 := (fun (o : Int32 × Int32 × Int32 × (Nat → Int32) × (Nat → Int32) × (Nat → Int32)) => o.1)) (by simp only [n_X9_startGame_ok, ← eo_1, ← eo_3, ← eo_4]) C hRT hP hD hS (Nat.le_of_ble_eq_true rfl) (Nat.le_of_ble_eq_true rfl) rfl rfl dX9_startGame_29

def n_X9_startGame_1 (g : Nat → Int32) (gb : Nat → Int32) : Int32 × (Nat → Int32) :=
  let o_1 := n_X9_begin g gb
  let o_3 := n_X9_fail 1
  (o_3, o_1.2)
def q_X9_startGame_1 (cy : Nat → ClassId) (h0 : Nat) (h1 : Nat) (h2 : Nat) (h3 : Nat) (h4 : Nat) (h5 : Nat) (h6 : Nat) (h7 : Nat) (h8 : Nat) (h9 : Nat) (v2 : Int32) (v3 : Int32) (v4 : Int32) (v5 : Int32) (v6 : Int32) (v7 : Int32) (v8 : Int32) (v9 : Int32) (v10 : Int32) (v11 : Int32) (g : Nat → Int32) (gh : Nat → Int32) (o : Int32 × (Nat → Int32)) : va_W := [(h0, .inr (11, [.ref h1, .ref h2, .ref h3, .ref h4, .ref h5, .int o.1, .int v2, .int v3, .int v4, .int v5, .ref h6, .int v6, .ref h7, .ref h8, .ref h9, .int v7, .int v8, .int v9, .int v10, .int v11])), (h1, .inl (cy 0, 64, .inl (g))), (h2, .inl (cy 0, 64, .inl (o.2))), (h5, .inl (cy 0, 512, .inl (gh)))]
set_option maxHeartbeats 4000000 in
set_option maxRecDepth 100000 in
theorem c_X9_startGame_1 (l : Launch) {E : zEn} (hE : zEok E) (D : zG) (cy : Nat → ClassId) (h0 h1 h2 h3 h4 h5 h6 h7 h8 h9 : Nat) (v1 : Int32) (v2 : Int32) (v3 : Int32) (v4 : Int32) (v5 : Int32) (v6 : Int32) (v7 : Int32) (v8 : Int32) (v9 : Int32) (v10 : Int32) (v11 : Int32) (g : Nat → Int32) (gb : Nat → Int32) (gh : Nat → Int32) (hr : g 0 = 1) (hd : zle v2 8) (sz : Nat) : Met l yX9_startGame (zws yX9_startGame cX9_startGame 2 (some .int)) { frames := 2, cells := 0, slots := 0, locals := 44 } (zPre E D cy [.ref h0] [(h0, .inr (11, [.ref h1, .ref h2, .ref h3, .ref h4, .ref h5, .int v1, .int v2, .int v3, .int v4, .int v5, .ref h6, .int v6, .ref h7, .ref h8, .ref h9, .int v7, .int v8, .int v9, .int v10, .int v11])), (h1, .inl (cy 0, 64, .inl (g))), (h2, .inl (cy 0, 64, .inl (gb))), (h5, .inl (cy 0, 512, .inl (gh)))] sz) (zQi D ((q_X9_startGame_1 cy h0 h1 h2 h3 h4 h5 h6 h7 h8 h9 v2 v3 v4 v5 v6 v7 v8 v9 v10 v11 g gh) (n_X9_startGame_1 g gb)) (va_A [(h0, .inr (11, [.ref h1, .ref h2, .ref h3, .ref h4, .ref h5, .int v1, .int v2, .int v3, .int v4, .int v5, .ref h6, .int v6, .ref h7, .ref h8, .ref h9, .int v7, .int v8, .int v9, .int v10, .int v11])), (h1, .inl (cy 0, 64, .inl (g))), (h2, .inl (cy 0, 64, .inl (gb))), (h5, .inl (cy 0, 512, .inl (gh)))] sz) (0)) 0 0 (va_A [(h0, .inr (11, [.ref h1, .ref h2, .ref h3, .ref h4, .ref h5, .int v1, .int v2, .int v3, .int v4, .int v5, .ref h6, .int v6, .ref h7, .ref h8, .ref h9, .int v7, .int v8, .int v9, .int v10, .int v11])), (h1, .inl (cy 0, 64, .inl (g))), (h2, .inl (cy 0, 64, .inl (gb))), (h5, .inl (cy 0, 512, .inl (gh)))] sz) := by
  refine z_of (Qc := fun A => zQi D ((q_X9_startGame_1 cy h0 h1 h2 h3 h4 h5 h6 h7 h8 h9 v2 v3 v4 v5 v6 v7 v8 v9 v10 v11 g gh) (n_X9_startGame_1 g gb)) A (0)) (by decide +kernel) (Nat.le_of_ble_eq_true rfl) rfl ?_
  intro pG eN sT mI below meth cO A ls C hRT hnm hA hP hD hS hE0 hl
  have hX := C.x
  have hB := C.b
  have hd_ := hd.2
  refine lv_aload_n hX hB dX9_startGame_0 rfl (lv_at hl 0 rfl) ?_
  refine z_callVv (isC := [0, 1, 2]) (isR := [3]) (isO := [1, 2, 3, 0]) (n_X9_begin g gb) (q_X9_begin cy h0 h1 h2 h3 h4 h5 h6 h7 h8 h9 v2 v3 v4 v5 v6 v7 v8 v9 v10 v11 g) (fun o_1 => [(h0, .inr (11, [.ref h1, .ref h2, .ref h3, .ref h4, .ref h5, .int o_1.1, .int v2, .int v3, .int v4, .int v5, .ref h6, .int v6, .ref h7, .ref h8, .ref h9, .int v7, .int v8, .int v9, .int v10, .int v11])), (h1, .inl (cy 0, 64, .inl (g))), (h2, .inl (cy 0, 64, .inl (o_1.2))), (h5, .inl (cy 0, 512, .inl (gh)))]) (c_X9_begin l hE D cy h0 h1 h2 h3 h4 h5 h6 h7 h8 h9 v1 v2 v3 v4 v5 v6 v7 v8 v9 v10 v11 g gb ) hE C zs_X9_80 ⟨Nat.le_of_ble_eq_true rfl, Nat.le_of_ble_eq_true rfl⟩ hP hD hS hA hE0 ⟨rfl, rfl, rfl, by decide, rfl, rfl, rfl⟩ 0 rfl rfl rfl rfl hl.1 (Nat.le_of_ble_eq_true rfl) rfl dX9_startGame_1 ⟨Nat.le_of_ble_eq_true rfl, Nat.le_of_ble_eq_true rfl⟩ (fun o_1 H locs eo_1 hP hD hS => ?_)
  refine lv_aload_n hX hB dX9_startGame_4 rfl (lv_at hl 0 rfl) ?_
  refine z_callVi (isC := [0, 1]) (isR := [2, 3]) (isO := [2, 3, 0, 1]) (()) (q_X9_cannotStart_1 cy h0 h1 h2 h3 h4 h5 h6 h7 h8 h9 o_1.1 v2 v3 v4 v5 v6 v7 v8 v9 v10 v11 g) (fun o_2 => [(h0, .inr (11, [.ref h1, .ref h2, .ref h3, .ref h4, .ref h5, .int o_1.1, .int v2, .int v3, .int v4, .int v5, .ref h6, .int v6, .ref h7, .ref h8, .ref h9, .int v7, .int v8, .int v9, .int v10, .int v11])), (h1, .inl (cy 0, 64, .inl (g))), (h2, .inl (cy 0, 64, .inl (o_1.2))), (h5, .inl (cy 0, 512, .inl (gh)))]) (fun o_2 => 1) (c_X9_cannotStart_1 l hE D cy h0 h1 h2 h3 h4 h5 h6 h7 h8 h9 o_1.1 v2 v3 v4 v5 v6 v7 v8 v9 v10 v11 g hr) hE C zs_X9_100 ⟨Nat.le_of_ble_eq_true rfl, Nat.le_of_ble_eq_true rfl⟩ hP hD hS hA hE0 ⟨rfl, rfl, rfl, by decide, rfl, rfl, rfl⟩ 0 rfl rfl rfl rfl hl.1 (Nat.le_of_ble_eq_true rfl) rfl dX9_startGame_5 ⟨Nat.le_of_ble_eq_true rfl, Nat.le_of_ble_eq_true rfl⟩ (fun o_2 H locs eo_2 hP hD hS => ?_)
  refine lv_istore_n (lv' := [(1, .int 1), (0, .ref h0)]) hX hB dX9_startGame_8 rfl hl (by decide) rfl (fun ls hl => ?_)
  refine lv_iload_n hX hB dX9_startGame_9 rfl (lv_at hl 0 rfl) ?_
  refine lv_if_le (tgt := 21) hX hB dX9_startGame_10 (by decide) (fun c => absurd c (by decide)) (fun _ => ?_)
  refine lv_aload_n hX hB dX9_startGame_13 rfl (lv_at hl 1 rfl) ?_
  refine lv_iload_n hX hB dX9_startGame_14 rfl (lv_at hl 0 rfl) ?_
  refine z_callVi (isC := [0]) (isR := [1, 2, 3]) (isO := [3, 0, 1, 2]) (n_X9_fail 1) (q_X9_fail h0 h1 h2 h3 h4 h5 h6 h7 h8 h9 v2 v3 v4 v5 v6 v7 v8 v9 v10 v11) (fun o_3 => [(h0, .inr (11, [.ref h1, .ref h2, .ref h3, .ref h4, .ref h5, .int o_3, .int v2, .int v3, .int v4, .int v5, .ref h6, .int v6, .ref h7, .ref h8, .ref h9, .int v7, .int v8, .int v9, .int v10, .int v11])), (h1, .inl (cy 0, 64, .inl (g))), (h2, .inl (cy 0, 64, .inl (o_1.2))), (h5, .inl (cy 0, 512, .inl (gh)))]) (fun o_3 => 0) (c_X9_fail l hE D cy h0 h1 h2 h3 h4 h5 h6 h7 h8 h9 o_1.1 v2 v3 v4 v5 v6 v7 v8 v9 v10 v11 1 ) hE C zs_X9_87 ⟨Nat.le_of_ble_eq_true rfl, Nat.le_of_ble_eq_true rfl⟩ hP hD hS hA hE0 ⟨rfl, rfl, rfl, by decide, rfl, rfl, rfl⟩ 0 rfl rfl rfl rfl hl.1 (Nat.le_of_ble_eq_true rfl) rfl dX9_startGame_15 ⟨Nat.le_of_ble_eq_true rfl, Nat.le_of_ble_eq_true rfl⟩ (fun o_3 H locs eo_3 hP hD hS => ?_)
  refine lv_goto (tgt := 29) hX hB dX9_startGame_18 (by decide) ?_
  exact z_iret' (o_3, o_1.2) (w' := q_X9_startGame_1 cy h0 h1 h2 h3 h4 h5 h6 h7 h8 h9 v2 v3 v4 v5 v6 v7 v8 v9 v10 v11 g gh) (r0 := (fun (o : Int32 × (Nat → Int32)) => 0)) (by simp only [n_X9_startGame_1, ← eo_1, ← eo_3]) C hRT hP hD hS (Nat.le_of_ble_eq_true rfl) (Nat.le_of_ble_eq_true rfl) rfl rfl dX9_startGame_29

def n_X9_startGame_2 (g : Nat → Int32) (gb : Nat → Int32) : Int32 × (Nat → Int32) :=
  let o_1 := n_X9_begin g gb
  let o_3 := n_X9_fail 2
  (o_3, o_1.2)
def q_X9_startGame_2 (cy : Nat → ClassId) (h0 : Nat) (h1 : Nat) (h2 : Nat) (h3 : Nat) (h4 : Nat) (h5 : Nat) (h6 : Nat) (h7 : Nat) (h8 : Nat) (h9 : Nat) (v2 : Int32) (v3 : Int32) (v4 : Int32) (v5 : Int32) (v6 : Int32) (v7 : Int32) (v8 : Int32) (v9 : Int32) (v10 : Int32) (v11 : Int32) (g : Nat → Int32) (gh : Nat → Int32) (o : Int32 × (Nat → Int32)) : va_W := [(h0, .inr (11, [.ref h1, .ref h2, .ref h3, .ref h4, .ref h5, .int o.1, .int v2, .int v3, .int v4, .int v5, .ref h6, .int v6, .ref h7, .ref h8, .ref h9, .int v7, .int v8, .int v9, .int v10, .int v11])), (h1, .inl (cy 0, 64, .inl (g))), (h2, .inl (cy 0, 64, .inl (o.2))), (h5, .inl (cy 0, 512, .inl (gh)))]
set_option maxHeartbeats 4000000 in
set_option maxRecDepth 100000 in
theorem c_X9_startGame_2 (l : Launch) {E : zEn} (hE : zEok E) (D : zG) (cy : Nat → ClassId) (h0 h1 h2 h3 h4 h5 h6 h7 h8 h9 : Nat) (v1 : Int32) (v2 : Int32) (v3 : Int32) (v4 : Int32) (v5 : Int32) (v6 : Int32) (v7 : Int32) (v8 : Int32) (v9 : Int32) (v10 : Int32) (v11 : Int32) (g : Nat → Int32) (gb : Nat → Int32) (gh : Nat → Int32) (hr : ¬ g 0 = 1) (hq : g 2 = 0) (hd : zle v2 8) (sz : Nat) : Met l yX9_startGame (zws yX9_startGame cX9_startGame 2 (some .int)) { frames := 2, cells := 0, slots := 0, locals := 44 } (zPre E D cy [.ref h0] [(h0, .inr (11, [.ref h1, .ref h2, .ref h3, .ref h4, .ref h5, .int v1, .int v2, .int v3, .int v4, .int v5, .ref h6, .int v6, .ref h7, .ref h8, .ref h9, .int v7, .int v8, .int v9, .int v10, .int v11])), (h1, .inl (cy 0, 64, .inl (g))), (h2, .inl (cy 0, 64, .inl (gb))), (h5, .inl (cy 0, 512, .inl (gh)))] sz) (zQi D ((q_X9_startGame_2 cy h0 h1 h2 h3 h4 h5 h6 h7 h8 h9 v2 v3 v4 v5 v6 v7 v8 v9 v10 v11 g gh) (n_X9_startGame_2 g gb)) (va_A [(h0, .inr (11, [.ref h1, .ref h2, .ref h3, .ref h4, .ref h5, .int v1, .int v2, .int v3, .int v4, .int v5, .ref h6, .int v6, .ref h7, .ref h8, .ref h9, .int v7, .int v8, .int v9, .int v10, .int v11])), (h1, .inl (cy 0, 64, .inl (g))), (h2, .inl (cy 0, 64, .inl (gb))), (h5, .inl (cy 0, 512, .inl (gh)))] sz) (0)) 0 0 (va_A [(h0, .inr (11, [.ref h1, .ref h2, .ref h3, .ref h4, .ref h5, .int v1, .int v2, .int v3, .int v4, .int v5, .ref h6, .int v6, .ref h7, .ref h8, .ref h9, .int v7, .int v8, .int v9, .int v10, .int v11])), (h1, .inl (cy 0, 64, .inl (g))), (h2, .inl (cy 0, 64, .inl (gb))), (h5, .inl (cy 0, 512, .inl (gh)))] sz) := by
  refine z_of (Qc := fun A => zQi D ((q_X9_startGame_2 cy h0 h1 h2 h3 h4 h5 h6 h7 h8 h9 v2 v3 v4 v5 v6 v7 v8 v9 v10 v11 g gh) (n_X9_startGame_2 g gb)) A (0)) (by decide +kernel) (Nat.le_of_ble_eq_true rfl) rfl ?_
  intro pG eN sT mI below meth cO A ls C hRT hnm hA hP hD hS hE0 hl
  have hX := C.x
  have hB := C.b
  have hd_ := hd.2
  refine lv_aload_n hX hB dX9_startGame_0 rfl (lv_at hl 0 rfl) ?_
  refine z_callVv (isC := [0, 1, 2]) (isR := [3]) (isO := [1, 2, 3, 0]) (n_X9_begin g gb) (q_X9_begin cy h0 h1 h2 h3 h4 h5 h6 h7 h8 h9 v2 v3 v4 v5 v6 v7 v8 v9 v10 v11 g) (fun o_1 => [(h0, .inr (11, [.ref h1, .ref h2, .ref h3, .ref h4, .ref h5, .int o_1.1, .int v2, .int v3, .int v4, .int v5, .ref h6, .int v6, .ref h7, .ref h8, .ref h9, .int v7, .int v8, .int v9, .int v10, .int v11])), (h1, .inl (cy 0, 64, .inl (g))), (h2, .inl (cy 0, 64, .inl (o_1.2))), (h5, .inl (cy 0, 512, .inl (gh)))]) (c_X9_begin l hE D cy h0 h1 h2 h3 h4 h5 h6 h7 h8 h9 v1 v2 v3 v4 v5 v6 v7 v8 v9 v10 v11 g gb ) hE C zs_X9_80 ⟨Nat.le_of_ble_eq_true rfl, Nat.le_of_ble_eq_true rfl⟩ hP hD hS hA hE0 ⟨rfl, rfl, rfl, by decide, rfl, rfl, rfl⟩ 0 rfl rfl rfl rfl hl.1 (Nat.le_of_ble_eq_true rfl) rfl dX9_startGame_1 ⟨Nat.le_of_ble_eq_true rfl, Nat.le_of_ble_eq_true rfl⟩ (fun o_1 H locs eo_1 hP hD hS => ?_)
  refine lv_aload_n hX hB dX9_startGame_4 rfl (lv_at hl 0 rfl) ?_
  refine z_callVi (isC := [0, 1]) (isR := [2, 3]) (isO := [2, 3, 0, 1]) (()) (q_X9_cannotStart_2 cy h0 h1 h2 h3 h4 h5 h6 h7 h8 h9 o_1.1 v2 v3 v4 v5 v6 v7 v8 v9 v10 v11 g) (fun o_2 => [(h0, .inr (11, [.ref h1, .ref h2, .ref h3, .ref h4, .ref h5, .int o_1.1, .int v2, .int v3, .int v4, .int v5, .ref h6, .int v6, .ref h7, .ref h8, .ref h9, .int v7, .int v8, .int v9, .int v10, .int v11])), (h1, .inl (cy 0, 64, .inl (g))), (h2, .inl (cy 0, 64, .inl (o_1.2))), (h5, .inl (cy 0, 512, .inl (gh)))]) (fun o_2 => 2) (c_X9_cannotStart_2 l hE D cy h0 h1 h2 h3 h4 h5 h6 h7 h8 h9 o_1.1 v2 v3 v4 v5 v6 v7 v8 v9 v10 v11 g hr hq) hE C zs_X9_100 ⟨Nat.le_of_ble_eq_true rfl, Nat.le_of_ble_eq_true rfl⟩ hP hD hS hA hE0 ⟨rfl, rfl, rfl, by decide, rfl, rfl, rfl⟩ 0 rfl rfl rfl rfl hl.1 (Nat.le_of_ble_eq_true rfl) rfl dX9_startGame_5 ⟨Nat.le_of_ble_eq_true rfl, Nat.le_of_ble_eq_true rfl⟩ (fun o_2 H locs eo_2 hP hD hS => ?_)
  refine lv_istore_n (lv' := [(1, .int 2), (0, .ref h0)]) hX hB dX9_startGame_8 rfl hl (by decide) rfl (fun ls hl => ?_)
  refine lv_iload_n hX hB dX9_startGame_9 rfl (lv_at hl 0 rfl) ?_
  refine lv_if_le (tgt := 21) hX hB dX9_startGame_10 (by decide) (fun c => absurd c (by decide)) (fun _ => ?_)
  refine lv_aload_n hX hB dX9_startGame_13 rfl (lv_at hl 1 rfl) ?_
  refine lv_iload_n hX hB dX9_startGame_14 rfl (lv_at hl 0 rfl) ?_
  refine z_callVi (isC := [0]) (isR := [1, 2, 3]) (isO := [3, 0, 1, 2]) (n_X9_fail 2) (q_X9_fail h0 h1 h2 h3 h4 h5 h6 h7 h8 h9 v2 v3 v4 v5 v6 v7 v8 v9 v10 v11) (fun o_3 => [(h0, .inr (11, [.ref h1, .ref h2, .ref h3, .ref h4, .ref h5, .int o_3, .int v2, .int v3, .int v4, .int v5, .ref h6, .int v6, .ref h7, .ref h8, .ref h9, .int v7, .int v8, .int v9, .int v10, .int v11])), (h1, .inl (cy 0, 64, .inl (g))), (h2, .inl (cy 0, 64, .inl (o_1.2))), (h5, .inl (cy 0, 512, .inl (gh)))]) (fun o_3 => 0) (c_X9_fail l hE D cy h0 h1 h2 h3 h4 h5 h6 h7 h8 h9 o_1.1 v2 v3 v4 v5 v6 v7 v8 v9 v10 v11 2 ) hE C zs_X9_87 ⟨Nat.le_of_ble_eq_true rfl, Nat.le_of_ble_eq_true rfl⟩ hP hD hS hA hE0 ⟨rfl, rfl, rfl, by decide, rfl, rfl, rfl⟩ 0 rfl rfl rfl rfl hl.1 (Nat.le_of_ble_eq_true rfl) rfl dX9_startGame_15 ⟨Nat.le_of_ble_eq_true rfl, Nat.le_of_ble_eq_true rfl⟩ (fun o_3 H locs eo_3 hP hD hS => ?_)
  refine lv_goto (tgt := 29) hX hB dX9_startGame_18 (by decide) ?_
  exact z_iret' (o_3, o_1.2) (w' := q_X9_startGame_2 cy h0 h1 h2 h3 h4 h5 h6 h7 h8 h9 v2 v3 v4 v5 v6 v7 v8 v9 v10 v11 g gh) (r0 := (fun (o : Int32 × (Nat → Int32)) => 0)) (by simp only [n_X9_startGame_2, ← eo_1, ← eo_3]) C hRT hP hD hS (Nat.le_of_ble_eq_true rfl) (Nat.le_of_ble_eq_true rfl) rfl rfl dX9_startGame_29

def n_X9_quitGame_ok (v2 : Int32) (g : Nat → Int32) (gb : Nat → Int32) (gh : Nat → Int32) : Int32 × Int32 × Int32 × (Nat → Int32) × (Nat → Int32) × (Nat → Int32) :=
  let o_1 := n_X9_begin g gb
  let o_3 := n_X9_quits g
  let o_4 := n_X9_commit v2 o_1.2 gh o_3.1
  (o_4.1, o_1.1, o_4.2.1, o_3.2, o_1.2, o_4.2.2)
def q_X9_quitGame_ok (cy : Nat → ClassId) (h0 : Nat) (h1 : Nat) (h2 : Nat) (h3 : Nat) (h4 : Nat) (h5 : Nat) (h6 : Nat) (h7 : Nat) (h8 : Nat) (h9 : Nat) (v3 : Int32) (v4 : Int32) (v5 : Int32) (v6 : Int32) (v7 : Int32) (v8 : Int32) (v9 : Int32) (v10 : Int32) (v11 : Int32) (o : Int32 × Int32 × Int32 × (Nat → Int32) × (Nat → Int32) × (Nat → Int32)) : va_W := [(h0, .inr (11, [.ref h1, .ref h2, .ref h3, .ref h4, .ref h5, .int o.2.1, .int o.2.2.1, .int v3, .int v4, .int v5, .ref h6, .int v6, .ref h7, .ref h8, .ref h9, .int v7, .int v8, .int v9, .int v10, .int v11])), (h1, .inl (cy 0, 64, .inl (o.2.2.2.1))), (h2, .inl (cy 0, 64, .inl (o.2.2.2.2.1))), (h5, .inl (cy 0, 512, .inl (o.2.2.2.2.2)))]
set_option maxHeartbeats 4000000 in
set_option maxRecDepth 100000 in
theorem c_X9_quitGame_ok (l : Launch) {E : zEn} (hE : zEok E) (D : zG) (cy : Nat → ClassId) (h0 h1 h2 h3 h4 h5 h6 h7 h8 h9 : Nat) (v1 : Int32) (v2 : Int32) (v3 : Int32) (v4 : Int32) (v5 : Int32) (v6 : Int32) (v7 : Int32) (v8 : Int32) (v9 : Int32) (v10 : Int32) (v11 : Int32) (g : Nat → Int32) (gb : Nat → Int32) (gh : Nat → Int32) (hr : g 0 = 1) (hd : zle v2 8) (sz : Nat) : Met l yX9_quitGame (zws yX9_quitGame cX9_quitGame 1 (some .int)) { frames := 2, cells := 0, slots := 0, locals := 46 } (zPre E D cy [.ref h0] [(h0, .inr (11, [.ref h1, .ref h2, .ref h3, .ref h4, .ref h5, .int v1, .int v2, .int v3, .int v4, .int v5, .ref h6, .int v6, .ref h7, .ref h8, .ref h9, .int v7, .int v8, .int v9, .int v10, .int v11])), (h1, .inl (cy 0, 64, .inl (g))), (h2, .inl (cy 0, 64, .inl (gb))), (h5, .inl (cy 0, 512, .inl (gh)))] sz) (zQi D ((q_X9_quitGame_ok cy h0 h1 h2 h3 h4 h5 h6 h7 h8 h9 v3 v4 v5 v6 v7 v8 v9 v10 v11) (n_X9_quitGame_ok v2 g gb gh)) (va_A [(h0, .inr (11, [.ref h1, .ref h2, .ref h3, .ref h4, .ref h5, .int v1, .int v2, .int v3, .int v4, .int v5, .ref h6, .int v6, .ref h7, .ref h8, .ref h9, .int v7, .int v8, .int v9, .int v10, .int v11])), (h1, .inl (cy 0, 64, .inl (g))), (h2, .inl (cy 0, 64, .inl (gb))), (h5, .inl (cy 0, 512, .inl (gh)))] sz) ((n_X9_quitGame_ok v2 g gb gh).1)) 0 0 (va_A [(h0, .inr (11, [.ref h1, .ref h2, .ref h3, .ref h4, .ref h5, .int v1, .int v2, .int v3, .int v4, .int v5, .ref h6, .int v6, .ref h7, .ref h8, .ref h9, .int v7, .int v8, .int v9, .int v10, .int v11])), (h1, .inl (cy 0, 64, .inl (g))), (h2, .inl (cy 0, 64, .inl (gb))), (h5, .inl (cy 0, 512, .inl (gh)))] sz) := by
  refine z_of (Qc := fun A => zQi D ((q_X9_quitGame_ok cy h0 h1 h2 h3 h4 h5 h6 h7 h8 h9 v3 v4 v5 v6 v7 v8 v9 v10 v11) (n_X9_quitGame_ok v2 g gb gh)) A ((n_X9_quitGame_ok v2 g gb gh).1)) (by decide +kernel) (Nat.le_of_ble_eq_true rfl) rfl ?_
  intro pG eN sT mI below meth cO A ls C hRT hnm hA hP hD hS hE0 hl
  have hX := C.x
  have hB := C.b
  have hd_ := hd.2
  refine lv_aload_n hX hB dX9_quitGame_0 rfl (lv_at hl 0 rfl) ?_
  refine z_callVv (isC := [0, 1, 2]) (isR := [3]) (isO := [1, 2, 3, 0]) (n_X9_begin g gb) (q_X9_begin cy h0 h1 h2 h3 h4 h5 h6 h7 h8 h9 v2 v3 v4 v5 v6 v7 v8 v9 v10 v11 g) (fun o_1 => [(h0, .inr (11, [.ref h1, .ref h2, .ref h3, .ref h4, .ref h5, .int o_1.1, .int v2, .int v3, .int v4, .int v5, .ref h6, .int v6, .ref h7, .ref h8, .ref h9, .int v7, .int v8, .int v9, .int v10, .int v11])), (h1, .inl (cy 0, 64, .inl (g))), (h2, .inl (cy 0, 64, .inl (o_1.2))), (h5, .inl (cy 0, 512, .inl (gh)))]) (c_X9_begin l hE D cy h0 h1 h2 h3 h4 h5 h6 h7 h8 h9 v1 v2 v3 v4 v5 v6 v7 v8 v9 v10 v11 g gb ) hE C zs_X9_80 ⟨Nat.le_of_ble_eq_true rfl, Nat.le_of_ble_eq_true rfl⟩ hP hD hS hA hE0 ⟨rfl, rfl, rfl, by decide, rfl, rfl, rfl⟩ 0 rfl rfl rfl rfl hl.1 (Nat.le_of_ble_eq_true rfl) rfl dX9_quitGame_1 ⟨Nat.le_of_ble_eq_true rfl, Nat.le_of_ble_eq_true rfl⟩ (fun o_1 H locs eo_1 hP hD hS => ?_)
  refine lv_aload_n hX hB dX9_quitGame_4 rfl (lv_at hl 0 rfl) ?_
  refine z_callVi (isC := [0, 1]) (isR := [2, 3]) (isO := [2, 3, 0, 1]) (()) (q_X9_runs_t cy h0 h1 h2 h3 h4 h5 h6 h7 h8 h9 o_1.1 v2 v3 v4 v5 v6 v7 v8 v9 v10 v11 g) (fun o_2 => [(h0, .inr (11, [.ref h1, .ref h2, .ref h3, .ref h4, .ref h5, .int o_1.1, .int v2, .int v3, .int v4, .int v5, .ref h6, .int v6, .ref h7, .ref h8, .ref h9, .int v7, .int v8, .int v9, .int v10, .int v11])), (h1, .inl (cy 0, 64, .inl (g))), (h2, .inl (cy 0, 64, .inl (o_1.2))), (h5, .inl (cy 0, 512, .inl (gh)))]) (fun o_2 => 1) (c_X9_runs_t l hE D cy h0 h1 h2 h3 h4 h5 h6 h7 h8 h9 o_1.1 v2 v3 v4 v5 v6 v7 v8 v9 v10 v11 g hr) hE C zs_X9_76 ⟨Nat.le_of_ble_eq_true rfl, Nat.le_of_ble_eq_true rfl⟩ hP hD hS hA hE0 ⟨rfl, rfl, rfl, by decide, rfl, rfl, rfl⟩ 0 rfl rfl rfl rfl hl.1 (Nat.le_of_ble_eq_true rfl) rfl dX9_quitGame_5 ⟨Nat.le_of_ble_eq_true rfl, Nat.le_of_ble_eq_true rfl⟩ (fun o_2 H locs eo_2 hP hD hS => ?_)
  refine lv_if_eq (tgt := 22) hX hB dX9_quitGame_8 (by decide) (fun c => absurd c (by decide)) (fun _ => ?_)
  refine lv_aload_n hX hB dX9_quitGame_11 rfl (lv_at hl 0 rfl) ?_
  refine lv_aload_n hX hB dX9_quitGame_12 rfl (lv_at hl 0 rfl) ?_
  refine z_callVi (isC := [0, 1]) (isR := [2, 3]) (isO := [2, 3, 0, 1]) (n_X9_quits g) (q_X9_quits cy h0 h1 h2 h3 h4 h5 h6 h7 h8 h9 o_1.1 v2 v3 v4 v5 v6 v7 v8 v9 v10 v11) (fun o_3 => [(h0, .inr (11, [.ref h1, .ref h2, .ref h3, .ref h4, .ref h5, .int o_1.1, .int v2, .int v3, .int v4, .int v5, .ref h6, .int v6, .ref h7, .ref h8, .ref h9, .int v7, .int v8, .int v9, .int v10, .int v11])), (h1, .inl (cy 0, 64, .inl (o_3.2))), (h2, .inl (cy 0, 64, .inl (o_1.2))), (h5, .inl (cy 0, 512, .inl (gh)))]) (fun o_3 => o_3.1) (c_X9_quits l hE D cy h0 h1 h2 h3 h4 h5 h6 h7 h8 h9 o_1.1 v2 v3 v4 v5 v6 v7 v8 v9 v10 v11 g ) hE C zs_X9_106 ⟨Nat.le_of_ble_eq_true rfl, Nat.le_of_ble_eq_true rfl⟩ hP hD hS hA hE0 ⟨rfl, rfl, rfl, by decide, rfl, rfl, rfl⟩ 0 rfl rfl rfl rfl hl.1 (Nat.le_of_ble_eq_true rfl) rfl dX9_quitGame_13 ⟨Nat.le_of_ble_eq_true rfl, Nat.le_of_ble_eq_true rfl⟩ (fun o_3 H locs eo_3 hP hD hS => ?_)
  refine z_callVi (isC := [0, 2, 3]) (isR := [1]) (isO := [1, 0, 2, 3]) (n_X9_commit v2 o_1.2 gh o_3.1) (q_X9_commit cy h0 h1 h2 h3 h4 h5 h6 h7 h8 h9 o_1.1 v3 v4 v5 v6 v7 v8 v9 v10 v11 o_1.2) (fun o_4 => [(h0, .inr (11, [.ref h1, .ref h2, .ref h3, .ref h4, .ref h5, .int o_1.1, .int o_4.2.1, .int v3, .int v4, .int v5, .ref h6, .int v6, .ref h7, .ref h8, .ref h9, .int v7, .int v8, .int v9, .int v10, .int v11])), (h1, .inl (cy 0, 64, .inl (o_3.2))), (h2, .inl (cy 0, 64, .inl (o_1.2))), (h5, .inl (cy 0, 512, .inl (o_4.2.2)))]) (fun o_4 => o_4.1) (c_X9_commit l hE D cy h0 h1 h2 h3 h4 h5 h6 h7 h8 h9 o_1.1 v2 v3 v4 v5 v6 v7 v8 v9 v10 v11 o_1.2 gh o_3.1 (zle_of hd.1 (by omega) (by decide))) hE C zs_X9_94 ⟨Nat.le_of_ble_eq_true rfl, Nat.le_of_ble_eq_true rfl⟩ hP hD hS hA hE0 ⟨rfl, rfl, rfl, by decide, rfl, rfl, rfl⟩ 0 rfl rfl rfl rfl hl.1 (Nat.le_of_ble_eq_true rfl) rfl dX9_quitGame_16 ⟨Nat.le_of_ble_eq_true rfl, Nat.le_of_ble_eq_true rfl⟩ (fun o_4 H locs eo_4 hP hD hS => ?_)
  refine lv_goto (tgt := 27) hX hB dX9_quitGame_19 (by decide) ?_
  exact z_iret' (o_4.1, o_1.1, o_4.2.1, o_3.2, o_1.2, o_4.2.2) (w' := q_X9_quitGame_ok cy h0 h1 h2 h3 h4 h5 h6 h7 h8 h9 v3 v4 v5 v6 v7 v8 v9 v10 v11) (r0 := (fun (o : Int32 × Int32 × Int32 × (Nat → Int32) × (Nat → Int32) × (Nat → Int32)) => o.1)) (by simp only [n_X9_quitGame_ok, ← eo_1, ← eo_3, ← eo_4]) C hRT hP hD hS (Nat.le_of_ble_eq_true rfl) (Nat.le_of_ble_eq_true rfl) rfl rfl dX9_quitGame_27

def n_X9_quitGame_1 (g : Nat → Int32) (gb : Nat → Int32) : Int32 × (Nat → Int32) :=
  let o_1 := n_X9_begin g gb
  let o_3 := n_X9_fail 1
  (o_3, o_1.2)
def q_X9_quitGame_1 (cy : Nat → ClassId) (h0 : Nat) (h1 : Nat) (h2 : Nat) (h3 : Nat) (h4 : Nat) (h5 : Nat) (h6 : Nat) (h7 : Nat) (h8 : Nat) (h9 : Nat) (v2 : Int32) (v3 : Int32) (v4 : Int32) (v5 : Int32) (v6 : Int32) (v7 : Int32) (v8 : Int32) (v9 : Int32) (v10 : Int32) (v11 : Int32) (g : Nat → Int32) (gh : Nat → Int32) (o : Int32 × (Nat → Int32)) : va_W := [(h0, .inr (11, [.ref h1, .ref h2, .ref h3, .ref h4, .ref h5, .int o.1, .int v2, .int v3, .int v4, .int v5, .ref h6, .int v6, .ref h7, .ref h8, .ref h9, .int v7, .int v8, .int v9, .int v10, .int v11])), (h1, .inl (cy 0, 64, .inl (g))), (h2, .inl (cy 0, 64, .inl (o.2))), (h5, .inl (cy 0, 512, .inl (gh)))]
set_option maxHeartbeats 4000000 in
set_option maxRecDepth 100000 in
theorem c_X9_quitGame_1 (l : Launch) {E : zEn} (hE : zEok E) (D : zG) (cy : Nat → ClassId) (h0 h1 h2 h3 h4 h5 h6 h7 h8 h9 : Nat) (v1 : Int32) (v2 : Int32) (v3 : Int32) (v4 : Int32) (v5 : Int32) (v6 : Int32) (v7 : Int32) (v8 : Int32) (v9 : Int32) (v10 : Int32) (v11 : Int32) (g : Nat → Int32) (gb : Nat → Int32) (gh : Nat → Int32) (hr : ¬ g 0 = 1) (hd : zle v2 8) (sz : Nat) : Met l yX9_quitGame (zws yX9_quitGame cX9_quitGame 1 (some .int)) { frames := 2, cells := 0, slots := 0, locals := 44 } (zPre E D cy [.ref h0] [(h0, .inr (11, [.ref h1, .ref h2, .ref h3, .ref h4, .ref h5, .int v1, .int v2, .int v3, .int v4, .int v5, .ref h6, .int v6, .ref h7, .ref h8, .ref h9, .int v7, .int v8, .int v9, .int v10, .int v11])), (h1, .inl (cy 0, 64, .inl (g))), (h2, .inl (cy 0, 64, .inl (gb))), (h5, .inl (cy 0, 512, .inl (gh)))] sz) (zQi D ((q_X9_quitGame_1 cy h0 h1 h2 h3 h4 h5 h6 h7 h8 h9 v2 v3 v4 v5 v6 v7 v8 v9 v10 v11 g gh) (n_X9_quitGame_1 g gb)) (va_A [(h0, .inr (11, [.ref h1, .ref h2, .ref h3, .ref h4, .ref h5, .int v1, .int v2, .int v3, .int v4, .int v5, .ref h6, .int v6, .ref h7, .ref h8, .ref h9, .int v7, .int v8, .int v9, .int v10, .int v11])), (h1, .inl (cy 0, 64, .inl (g))), (h2, .inl (cy 0, 64, .inl (gb))), (h5, .inl (cy 0, 512, .inl (gh)))] sz) (0)) 0 0 (va_A [(h0, .inr (11, [.ref h1, .ref h2, .ref h3, .ref h4, .ref h5, .int v1, .int v2, .int v3, .int v4, .int v5, .ref h6, .int v6, .ref h7, .ref h8, .ref h9, .int v7, .int v8, .int v9, .int v10, .int v11])), (h1, .inl (cy 0, 64, .inl (g))), (h2, .inl (cy 0, 64, .inl (gb))), (h5, .inl (cy 0, 512, .inl (gh)))] sz) := by
  refine z_of (Qc := fun A => zQi D ((q_X9_quitGame_1 cy h0 h1 h2 h3 h4 h5 h6 h7 h8 h9 v2 v3 v4 v5 v6 v7 v8 v9 v10 v11 g gh) (n_X9_quitGame_1 g gb)) A (0)) (by decide +kernel) (Nat.le_of_ble_eq_true rfl) rfl ?_
  intro pG eN sT mI below meth cO A ls C hRT hnm hA hP hD hS hE0 hl
  have hX := C.x
  have hB := C.b
  have hd_ := hd.2
  refine lv_aload_n hX hB dX9_quitGame_0 rfl (lv_at hl 0 rfl) ?_
  refine z_callVv (isC := [0, 1, 2]) (isR := [3]) (isO := [1, 2, 3, 0]) (n_X9_begin g gb) (q_X9_begin cy h0 h1 h2 h3 h4 h5 h6 h7 h8 h9 v2 v3 v4 v5 v6 v7 v8 v9 v10 v11 g) (fun o_1 => [(h0, .inr (11, [.ref h1, .ref h2, .ref h3, .ref h4, .ref h5, .int o_1.1, .int v2, .int v3, .int v4, .int v5, .ref h6, .int v6, .ref h7, .ref h8, .ref h9, .int v7, .int v8, .int v9, .int v10, .int v11])), (h1, .inl (cy 0, 64, .inl (g))), (h2, .inl (cy 0, 64, .inl (o_1.2))), (h5, .inl (cy 0, 512, .inl (gh)))]) (c_X9_begin l hE D cy h0 h1 h2 h3 h4 h5 h6 h7 h8 h9 v1 v2 v3 v4 v5 v6 v7 v8 v9 v10 v11 g gb ) hE C zs_X9_80 ⟨Nat.le_of_ble_eq_true rfl, Nat.le_of_ble_eq_true rfl⟩ hP hD hS hA hE0 ⟨rfl, rfl, rfl, by decide, rfl, rfl, rfl⟩ 0 rfl rfl rfl rfl hl.1 (Nat.le_of_ble_eq_true rfl) rfl dX9_quitGame_1 ⟨Nat.le_of_ble_eq_true rfl, Nat.le_of_ble_eq_true rfl⟩ (fun o_1 H locs eo_1 hP hD hS => ?_)
  refine lv_aload_n hX hB dX9_quitGame_4 rfl (lv_at hl 0 rfl) ?_
  refine z_callVi (isC := [0, 1]) (isR := [2, 3]) (isO := [2, 3, 0, 1]) (()) (q_X9_runs_f cy h0 h1 h2 h3 h4 h5 h6 h7 h8 h9 o_1.1 v2 v3 v4 v5 v6 v7 v8 v9 v10 v11 g) (fun o_2 => [(h0, .inr (11, [.ref h1, .ref h2, .ref h3, .ref h4, .ref h5, .int o_1.1, .int v2, .int v3, .int v4, .int v5, .ref h6, .int v6, .ref h7, .ref h8, .ref h9, .int v7, .int v8, .int v9, .int v10, .int v11])), (h1, .inl (cy 0, 64, .inl (g))), (h2, .inl (cy 0, 64, .inl (o_1.2))), (h5, .inl (cy 0, 512, .inl (gh)))]) (fun o_2 => 0) (c_X9_runs_f l hE D cy h0 h1 h2 h3 h4 h5 h6 h7 h8 h9 o_1.1 v2 v3 v4 v5 v6 v7 v8 v9 v10 v11 g hr) hE C zs_X9_76 ⟨Nat.le_of_ble_eq_true rfl, Nat.le_of_ble_eq_true rfl⟩ hP hD hS hA hE0 ⟨rfl, rfl, rfl, by decide, rfl, rfl, rfl⟩ 0 rfl rfl rfl rfl hl.1 (Nat.le_of_ble_eq_true rfl) rfl dX9_quitGame_5 ⟨Nat.le_of_ble_eq_true rfl, Nat.le_of_ble_eq_true rfl⟩ (fun o_2 H locs eo_2 hP hD hS => ?_)
  refine lv_if_eq (tgt := 22) hX hB dX9_quitGame_8 (by decide) (fun _ => ?_) (fun c => absurd (by decide) c)
  refine lv_aload_n hX hB dX9_quitGame_22 rfl (lv_at hl 0 rfl) ?_
  refine lv_iconst (v := 1) hX hB dX9_quitGame_23 (by decide) ?_
  refine z_callVi (isC := [0]) (isR := [1, 2, 3]) (isO := [3, 0, 1, 2]) (n_X9_fail 1) (q_X9_fail h0 h1 h2 h3 h4 h5 h6 h7 h8 h9 v2 v3 v4 v5 v6 v7 v8 v9 v10 v11) (fun o_3 => [(h0, .inr (11, [.ref h1, .ref h2, .ref h3, .ref h4, .ref h5, .int o_3, .int v2, .int v3, .int v4, .int v5, .ref h6, .int v6, .ref h7, .ref h8, .ref h9, .int v7, .int v8, .int v9, .int v10, .int v11])), (h1, .inl (cy 0, 64, .inl (g))), (h2, .inl (cy 0, 64, .inl (o_1.2))), (h5, .inl (cy 0, 512, .inl (gh)))]) (fun o_3 => 0) (c_X9_fail l hE D cy h0 h1 h2 h3 h4 h5 h6 h7 h8 h9 o_1.1 v2 v3 v4 v5 v6 v7 v8 v9 v10 v11 1 ) hE C zs_X9_87 ⟨Nat.le_of_ble_eq_true rfl, Nat.le_of_ble_eq_true rfl⟩ hP hD hS hA hE0 ⟨rfl, rfl, rfl, by decide, rfl, rfl, rfl⟩ 0 rfl rfl rfl rfl hl.1 (Nat.le_of_ble_eq_true rfl) rfl dX9_quitGame_24 ⟨Nat.le_of_ble_eq_true rfl, Nat.le_of_ble_eq_true rfl⟩ (fun o_3 H locs eo_3 hP hD hS => ?_)
  exact z_iret' (o_3, o_1.2) (w' := q_X9_quitGame_1 cy h0 h1 h2 h3 h4 h5 h6 h7 h8 h9 v2 v3 v4 v5 v6 v7 v8 v9 v10 v11 g gh) (r0 := (fun (o : Int32 × (Nat → Int32)) => 0)) (by simp only [n_X9_quitGame_1, ← eo_1, ← eo_3]) C hRT hP hD hS (Nat.le_of_ble_eq_true rfl) (Nat.le_of_ble_eq_true rfl) rfl rfl dX9_quitGame_27

def n_X9_hitLane_ok (v2 : Int32) (g : Nat → Int32) (gb : Nat → Int32) (gh : Nat → Int32) (i : Nat) : Int32 × Int32 × Int32 × (Nat → Int32) × (Nat → Int32) × (Nat → Int32) :=
  let o_1 := n_X9_begin g gb
  let o_3 := n_X9_hitsLane g i
  let o_4 := n_X9_commit v2 o_1.2 gh o_3.1
  (o_4.1, o_1.1, o_4.2.1, o_3.2, o_1.2, o_4.2.2)
def q_X9_hitLane_ok (cy : Nat → ClassId) (h0 : Nat) (h1 : Nat) (h2 : Nat) (h3 : Nat) (h4 : Nat) (h5 : Nat) (h6 : Nat) (h7 : Nat) (h8 : Nat) (h9 : Nat) (v3 : Int32) (v4 : Int32) (v5 : Int32) (v6 : Int32) (v7 : Int32) (v8 : Int32) (v9 : Int32) (v10 : Int32) (v11 : Int32) (o : Int32 × Int32 × Int32 × (Nat → Int32) × (Nat → Int32) × (Nat → Int32)) : va_W := [(h0, .inr (11, [.ref h1, .ref h2, .ref h3, .ref h4, .ref h5, .int o.2.1, .int o.2.2.1, .int v3, .int v4, .int v5, .ref h6, .int v6, .ref h7, .ref h8, .ref h9, .int v7, .int v8, .int v9, .int v10, .int v11])), (h1, .inl (cy 0, 64, .inl (o.2.2.2.1))), (h2, .inl (cy 0, 64, .inl (o.2.2.2.2.1))), (h5, .inl (cy 0, 512, .inl (o.2.2.2.2.2)))]
set_option maxHeartbeats 4000000 in
set_option maxRecDepth 100000 in
theorem c_X9_hitLane_ok (l : Launch) {E : zEn} (hE : zEok E) (D : zG) (cy : Nat → ClassId) (h0 h1 h2 h3 h4 h5 h6 h7 h8 h9 : Nat) (v1 : Int32) (v2 : Int32) (v3 : Int32) (v4 : Int32) (v5 : Int32) (v6 : Int32) (v7 : Int32) (v8 : Int32) (v9 : Int32) (v10 : Int32) (v11 : Int32) (g : Nat → Int32) (gb : Nat → Int32) (gh : Nat → Int32) (x : Int32) (i : Nat) (hx : zi x i) (hxb : i ≤ 3) (hr : g 0 = 1) (hc : zle (g 3) 3) (hd : zle v2 8) (sz : Nat) : Met l yX9_hitLane (zws yX9_hitLane cX9_hitLane 3 (some .int)) { frames := 3, cells := 0, slots := 0, locals := 67 } (zPre E D cy [.ref h0, .int x] [(h0, .inr (11, [.ref h1, .ref h2, .ref h3, .ref h4, .ref h5, .int v1, .int v2, .int v3, .int v4, .int v5, .ref h6, .int v6, .ref h7, .ref h8, .ref h9, .int v7, .int v8, .int v9, .int v10, .int v11])), (h1, .inl (cy 0, 64, .inl (g))), (h2, .inl (cy 0, 64, .inl (gb))), (h5, .inl (cy 0, 512, .inl (gh)))] sz) (zQi D ((q_X9_hitLane_ok cy h0 h1 h2 h3 h4 h5 h6 h7 h8 h9 v3 v4 v5 v6 v7 v8 v9 v10 v11) (n_X9_hitLane_ok v2 g gb gh i)) (va_A [(h0, .inr (11, [.ref h1, .ref h2, .ref h3, .ref h4, .ref h5, .int v1, .int v2, .int v3, .int v4, .int v5, .ref h6, .int v6, .ref h7, .ref h8, .ref h9, .int v7, .int v8, .int v9, .int v10, .int v11])), (h1, .inl (cy 0, 64, .inl (g))), (h2, .inl (cy 0, 64, .inl (gb))), (h5, .inl (cy 0, 512, .inl (gh)))] sz) ((n_X9_hitLane_ok v2 g gb gh i).1)) 0 0 (va_A [(h0, .inr (11, [.ref h1, .ref h2, .ref h3, .ref h4, .ref h5, .int v1, .int v2, .int v3, .int v4, .int v5, .ref h6, .int v6, .ref h7, .ref h8, .ref h9, .int v7, .int v8, .int v9, .int v10, .int v11])), (h1, .inl (cy 0, 64, .inl (g))), (h2, .inl (cy 0, 64, .inl (gb))), (h5, .inl (cy 0, 512, .inl (gh)))] sz) := by
  refine z_of (Qc := fun A => zQi D ((q_X9_hitLane_ok cy h0 h1 h2 h3 h4 h5 h6 h7 h8 h9 v3 v4 v5 v6 v7 v8 v9 v10 v11) (n_X9_hitLane_ok v2 g gb gh i)) A ((n_X9_hitLane_ok v2 g gb gh i).1)) (by decide +kernel) (Nat.le_of_ble_eq_true rfl) rfl ?_
  intro pG eN sT mI below meth cO A ls C hRT hnm hA hP hD hS hE0 hl
  have hX := C.x
  have hB := C.b
  have hc_ := hc.2
  have hd_ := hd.2
  refine lv_aload_n hX hB dX9_hitLane_0 rfl (lv_at hl 0 rfl) ?_
  refine z_callVv (isC := [0, 1, 2]) (isR := [3]) (isO := [1, 2, 3, 0]) (n_X9_begin g gb) (q_X9_begin cy h0 h1 h2 h3 h4 h5 h6 h7 h8 h9 v2 v3 v4 v5 v6 v7 v8 v9 v10 v11 g) (fun o_1 => [(h0, .inr (11, [.ref h1, .ref h2, .ref h3, .ref h4, .ref h5, .int o_1.1, .int v2, .int v3, .int v4, .int v5, .ref h6, .int v6, .ref h7, .ref h8, .ref h9, .int v7, .int v8, .int v9, .int v10, .int v11])), (h1, .inl (cy 0, 64, .inl (g))), (h2, .inl (cy 0, 64, .inl (o_1.2))), (h5, .inl (cy 0, 512, .inl (gh)))]) (c_X9_begin l hE D cy h0 h1 h2 h3 h4 h5 h6 h7 h8 h9 v1 v2 v3 v4 v5 v6 v7 v8 v9 v10 v11 g gb ) hE C zs_X9_80 ⟨Nat.le_of_ble_eq_true rfl, Nat.le_of_ble_eq_true rfl⟩ hP hD hS hA hE0 ⟨rfl, rfl, rfl, by decide, rfl, rfl, rfl⟩ 0 rfl rfl rfl rfl hl.1 (Nat.le_of_ble_eq_true rfl) rfl dX9_hitLane_1 ⟨Nat.le_of_ble_eq_true rfl, Nat.le_of_ble_eq_true rfl⟩ (fun o_1 H locs eo_1 hP hD hS => ?_)
  refine lv_aload_n hX hB dX9_hitLane_4 rfl (lv_at hl 0 rfl) ?_
  refine lv_iload_n hX hB dX9_hitLane_5 rfl (lv_at hl 1 rfl) ?_
  refine lv_iconst (v := 4) hX hB dX9_hitLane_6 (by decide) ?_
  refine z_callVi (isC := [0, 1]) (isR := [2, 3]) (isO := [2, 3, 0, 1]) (()) (q_X9_cannotHit4_ok cy h0 h1 h2 h3 h4 h5 h6 h7 h8 h9 o_1.1 v2 v3 v4 v5 v6 v7 v8 v9 v10 v11 g) (fun o_2 => [(h0, .inr (11, [.ref h1, .ref h2, .ref h3, .ref h4, .ref h5, .int o_1.1, .int v2, .int v3, .int v4, .int v5, .ref h6, .int v6, .ref h7, .ref h8, .ref h9, .int v7, .int v8, .int v9, .int v10, .int v11])), (h1, .inl (cy 0, 64, .inl (g))), (h2, .inl (cy 0, 64, .inl (o_1.2))), (h5, .inl (cy 0, 512, .inl (gh)))]) (fun o_2 => 0) (c_X9_cannotHit4_ok l hE D cy h0 h1 h2 h3 h4 h5 h6 h7 h8 h9 o_1.1 v2 v3 v4 v5 v6 v7 v8 v9 v10 v11 g x i hx (by omega) hr) hE C zs_X9_131 ⟨Nat.le_of_ble_eq_true rfl, Nat.le_of_ble_eq_true rfl⟩ hP hD hS hA hE0 ⟨rfl, rfl, rfl, by decide, rfl, rfl, rfl⟩ 0 rfl rfl rfl rfl hl.1 (Nat.le_of_ble_eq_true rfl) rfl dX9_hitLane_7 ⟨Nat.le_of_ble_eq_true rfl, Nat.le_of_ble_eq_true rfl⟩ (fun o_2 H locs eo_2 hP hD hS => ?_)
  refine lv_istore_n (lv' := [(2, .int 0), (0, .ref h0), (1, .int x)]) hX hB dX9_hitLane_10 rfl hl (by decide) rfl (fun ls hl => ?_)
  refine lv_iload_n hX hB dX9_hitLane_11 rfl (lv_at hl 0 rfl) ?_
  refine lv_if_le (tgt := 23) hX hB dX9_hitLane_12 (by decide) (fun _ => ?_) (fun c => absurd (by decide) c)
  refine lv_aload_n hX hB dX9_hitLane_23 rfl (lv_at hl 1 rfl) ?_
  refine lv_aload_n hX hB dX9_hitLane_24 rfl (lv_at hl 1 rfl) ?_
  refine lv_iload_n hX hB dX9_hitLane_25 rfl (lv_at hl 2 rfl) ?_
  refine z_callVi (isC := [0, 1]) (isR := [2, 3]) (isO := [2, 3, 0, 1]) (n_X9_hitsLane g i) (q_X9_hitsLane cy h0 h1 h2 h3 h4 h5 h6 h7 h8 h9 o_1.1 v2 v3 v4 v5 v6 v7 v8 v9 v10 v11) (fun o_3 => [(h0, .inr (11, [.ref h1, .ref h2, .ref h3, .ref h4, .ref h5, .int o_1.1, .int v2, .int v3, .int v4, .int v5, .ref h6, .int v6, .ref h7, .ref h8, .ref h9, .int v7, .int v8, .int v9, .int v10, .int v11])), (h1, .inl (cy 0, 64, .inl (o_3.2))), (h2, .inl (cy 0, 64, .inl (o_1.2))), (h5, .inl (cy 0, 512, .inl (gh)))]) (fun o_3 => o_3.1) (c_X9_hitsLane l hE D cy h0 h1 h2 h3 h4 h5 h6 h7 h8 h9 o_1.1 v2 v3 v4 v5 v6 v7 v8 v9 v10 v11 g x i hx (by omega) (zle_of (zi_tr rfl hc.1) (by omega) (by decide))) hE C zs_X9_134 ⟨Nat.le_of_ble_eq_true rfl, Nat.le_of_ble_eq_true rfl⟩ hP hD hS hA hE0 ⟨rfl, rfl, rfl, by decide, rfl, rfl, rfl⟩ 0 rfl rfl rfl rfl hl.1 (Nat.le_of_ble_eq_true rfl) rfl dX9_hitLane_26 ⟨Nat.le_of_ble_eq_true rfl, Nat.le_of_ble_eq_true rfl⟩ (fun o_3 H locs eo_3 hP hD hS => ?_)
  refine z_callVi (isC := [0, 2, 3]) (isR := [1]) (isO := [1, 0, 2, 3]) (n_X9_commit v2 o_1.2 gh o_3.1) (q_X9_commit cy h0 h1 h2 h3 h4 h5 h6 h7 h8 h9 o_1.1 v3 v4 v5 v6 v7 v8 v9 v10 v11 o_1.2) (fun o_4 => [(h0, .inr (11, [.ref h1, .ref h2, .ref h3, .ref h4, .ref h5, .int o_1.1, .int o_4.2.1, .int v3, .int v4, .int v5, .ref h6, .int v6, .ref h7, .ref h8, .ref h9, .int v7, .int v8, .int v9, .int v10, .int v11])), (h1, .inl (cy 0, 64, .inl (o_3.2))), (h2, .inl (cy 0, 64, .inl (o_1.2))), (h5, .inl (cy 0, 512, .inl (o_4.2.2)))]) (fun o_4 => o_4.1) (c_X9_commit l hE D cy h0 h1 h2 h3 h4 h5 h6 h7 h8 h9 o_1.1 v2 v3 v4 v5 v6 v7 v8 v9 v10 v11 o_1.2 gh o_3.1 (zle_of hd.1 (by omega) (by decide))) hE C zs_X9_94 ⟨Nat.le_of_ble_eq_true rfl, Nat.le_of_ble_eq_true rfl⟩ hP hD hS hA hE0 ⟨rfl, rfl, rfl, by decide, rfl, rfl, rfl⟩ 0 rfl rfl rfl rfl hl.1 (Nat.le_of_ble_eq_true rfl) rfl dX9_hitLane_29 ⟨Nat.le_of_ble_eq_true rfl, Nat.le_of_ble_eq_true rfl⟩ (fun o_4 H locs eo_4 hP hD hS => ?_)
  exact z_iret' (o_4.1, o_1.1, o_4.2.1, o_3.2, o_1.2, o_4.2.2) (w' := q_X9_hitLane_ok cy h0 h1 h2 h3 h4 h5 h6 h7 h8 h9 v3 v4 v5 v6 v7 v8 v9 v10 v11) (r0 := (fun (o : Int32 × Int32 × Int32 × (Nat → Int32) × (Nat → Int32) × (Nat → Int32)) => o.1)) (by simp only [n_X9_hitLane_ok, ← eo_1, ← eo_3, ← eo_4]) C hRT hP hD hS (Nat.le_of_ble_eq_true rfl) (Nat.le_of_ble_eq_true rfl) rfl rfl dX9_hitLane_32

def n_X9_hitLane_1 (g : Nat → Int32) (gb : Nat → Int32) : Int32 × (Nat → Int32) :=
  let o_1 := n_X9_begin g gb
  let o_3 := n_X9_fail 1
  (o_3, o_1.2)
def q_X9_hitLane_1 (cy : Nat → ClassId) (h0 : Nat) (h1 : Nat) (h2 : Nat) (h3 : Nat) (h4 : Nat) (h5 : Nat) (h6 : Nat) (h7 : Nat) (h8 : Nat) (h9 : Nat) (v2 : Int32) (v3 : Int32) (v4 : Int32) (v5 : Int32) (v6 : Int32) (v7 : Int32) (v8 : Int32) (v9 : Int32) (v10 : Int32) (v11 : Int32) (g : Nat → Int32) (gh : Nat → Int32) (o : Int32 × (Nat → Int32)) : va_W := [(h0, .inr (11, [.ref h1, .ref h2, .ref h3, .ref h4, .ref h5, .int o.1, .int v2, .int v3, .int v4, .int v5, .ref h6, .int v6, .ref h7, .ref h8, .ref h9, .int v7, .int v8, .int v9, .int v10, .int v11])), (h1, .inl (cy 0, 64, .inl (g))), (h2, .inl (cy 0, 64, .inl (o.2))), (h5, .inl (cy 0, 512, .inl (gh)))]
set_option maxHeartbeats 4000000 in
set_option maxRecDepth 100000 in
theorem c_X9_hitLane_1 (l : Launch) {E : zEn} (hE : zEok E) (D : zG) (cy : Nat → ClassId) (h0 h1 h2 h3 h4 h5 h6 h7 h8 h9 : Nat) (v1 : Int32) (v2 : Int32) (v3 : Int32) (v4 : Int32) (v5 : Int32) (v6 : Int32) (v7 : Int32) (v8 : Int32) (v9 : Int32) (v10 : Int32) (v11 : Int32) (g : Nat → Int32) (gb : Nat → Int32) (gh : Nat → Int32) (x : Int32) (hin : n_X9_in x 0 3 = 0) (hd : zle v2 8) (sz : Nat) : Met l yX9_hitLane (zws yX9_hitLane cX9_hitLane 3 (some .int)) { frames := 2, cells := 0, slots := 0, locals := 44 } (zPre E D cy [.ref h0, .int x] [(h0, .inr (11, [.ref h1, .ref h2, .ref h3, .ref h4, .ref h5, .int v1, .int v2, .int v3, .int v4, .int v5, .ref h6, .int v6, .ref h7, .ref h8, .ref h9, .int v7, .int v8, .int v9, .int v10, .int v11])), (h1, .inl (cy 0, 64, .inl (g))), (h2, .inl (cy 0, 64, .inl (gb))), (h5, .inl (cy 0, 512, .inl (gh)))] sz) (zQi D ((q_X9_hitLane_1 cy h0 h1 h2 h3 h4 h5 h6 h7 h8 h9 v2 v3 v4 v5 v6 v7 v8 v9 v10 v11 g gh) (n_X9_hitLane_1 g gb)) (va_A [(h0, .inr (11, [.ref h1, .ref h2, .ref h3, .ref h4, .ref h5, .int v1, .int v2, .int v3, .int v4, .int v5, .ref h6, .int v6, .ref h7, .ref h8, .ref h9, .int v7, .int v8, .int v9, .int v10, .int v11])), (h1, .inl (cy 0, 64, .inl (g))), (h2, .inl (cy 0, 64, .inl (gb))), (h5, .inl (cy 0, 512, .inl (gh)))] sz) (0)) 0 0 (va_A [(h0, .inr (11, [.ref h1, .ref h2, .ref h3, .ref h4, .ref h5, .int v1, .int v2, .int v3, .int v4, .int v5, .ref h6, .int v6, .ref h7, .ref h8, .ref h9, .int v7, .int v8, .int v9, .int v10, .int v11])), (h1, .inl (cy 0, 64, .inl (g))), (h2, .inl (cy 0, 64, .inl (gb))), (h5, .inl (cy 0, 512, .inl (gh)))] sz) := by
  refine z_of (Qc := fun A => zQi D ((q_X9_hitLane_1 cy h0 h1 h2 h3 h4 h5 h6 h7 h8 h9 v2 v3 v4 v5 v6 v7 v8 v9 v10 v11 g gh) (n_X9_hitLane_1 g gb)) A (0)) (by decide +kernel) (Nat.le_of_ble_eq_true rfl) rfl ?_
  intro pG eN sT mI below meth cO A ls C hRT hnm hA hP hD hS hE0 hl
  have hX := C.x
  have hB := C.b
  have hd_ := hd.2
  refine lv_aload_n hX hB dX9_hitLane_0 rfl (lv_at hl 0 rfl) ?_
  refine z_callVv (isC := [0, 1, 2]) (isR := [3]) (isO := [1, 2, 3, 0]) (n_X9_begin g gb) (q_X9_begin cy h0 h1 h2 h3 h4 h5 h6 h7 h8 h9 v2 v3 v4 v5 v6 v7 v8 v9 v10 v11 g) (fun o_1 => [(h0, .inr (11, [.ref h1, .ref h2, .ref h3, .ref h4, .ref h5, .int o_1.1, .int v2, .int v3, .int v4, .int v5, .ref h6, .int v6, .ref h7, .ref h8, .ref h9, .int v7, .int v8, .int v9, .int v10, .int v11])), (h1, .inl (cy 0, 64, .inl (g))), (h2, .inl (cy 0, 64, .inl (o_1.2))), (h5, .inl (cy 0, 512, .inl (gh)))]) (c_X9_begin l hE D cy h0 h1 h2 h3 h4 h5 h6 h7 h8 h9 v1 v2 v3 v4 v5 v6 v7 v8 v9 v10 v11 g gb ) hE C zs_X9_80 ⟨Nat.le_of_ble_eq_true rfl, Nat.le_of_ble_eq_true rfl⟩ hP hD hS hA hE0 ⟨rfl, rfl, rfl, by decide, rfl, rfl, rfl⟩ 0 rfl rfl rfl rfl hl.1 (Nat.le_of_ble_eq_true rfl) rfl dX9_hitLane_1 ⟨Nat.le_of_ble_eq_true rfl, Nat.le_of_ble_eq_true rfl⟩ (fun o_1 H locs eo_1 hP hD hS => ?_)
  refine lv_aload_n hX hB dX9_hitLane_4 rfl (lv_at hl 0 rfl) ?_
  refine lv_iload_n hX hB dX9_hitLane_5 rfl (lv_at hl 1 rfl) ?_
  refine lv_iconst (v := 4) hX hB dX9_hitLane_6 (by decide) ?_
  refine z_callVi (isC := [0, 1]) (isR := [2, 3]) (isO := [2, 3, 0, 1]) (()) (q_X9_cannotHit4_1 cy h0 h1 h2 h3 h4 h5 h6 h7 h8 h9 o_1.1 v2 v3 v4 v5 v6 v7 v8 v9 v10 v11 g) (fun o_2 => [(h0, .inr (11, [.ref h1, .ref h2, .ref h3, .ref h4, .ref h5, .int o_1.1, .int v2, .int v3, .int v4, .int v5, .ref h6, .int v6, .ref h7, .ref h8, .ref h9, .int v7, .int v8, .int v9, .int v10, .int v11])), (h1, .inl (cy 0, 64, .inl (g))), (h2, .inl (cy 0, 64, .inl (o_1.2))), (h5, .inl (cy 0, 512, .inl (gh)))]) (fun o_2 => 1) (c_X9_cannotHit4_1 l hE D cy h0 h1 h2 h3 h4 h5 h6 h7 h8 h9 o_1.1 v2 v3 v4 v5 v6 v7 v8 v9 v10 v11 g x hin) hE C zs_X9_131 ⟨Nat.le_of_ble_eq_true rfl, Nat.le_of_ble_eq_true rfl⟩ hP hD hS hA hE0 ⟨rfl, rfl, rfl, by decide, rfl, rfl, rfl⟩ 0 rfl rfl rfl rfl hl.1 (Nat.le_of_ble_eq_true rfl) rfl dX9_hitLane_7 ⟨Nat.le_of_ble_eq_true rfl, Nat.le_of_ble_eq_true rfl⟩ (fun o_2 H locs eo_2 hP hD hS => ?_)
  refine lv_istore_n (lv' := [(2, .int 1), (0, .ref h0), (1, .int x)]) hX hB dX9_hitLane_10 rfl hl (by decide) rfl (fun ls hl => ?_)
  refine lv_iload_n hX hB dX9_hitLane_11 rfl (lv_at hl 0 rfl) ?_
  refine lv_if_le (tgt := 23) hX hB dX9_hitLane_12 (by decide) (fun c => absurd c (by decide)) (fun _ => ?_)
  refine lv_aload_n hX hB dX9_hitLane_15 rfl (lv_at hl 1 rfl) ?_
  refine lv_iload_n hX hB dX9_hitLane_16 rfl (lv_at hl 0 rfl) ?_
  refine z_callVi (isC := [0]) (isR := [1, 2, 3]) (isO := [3, 0, 1, 2]) (n_X9_fail 1) (q_X9_fail h0 h1 h2 h3 h4 h5 h6 h7 h8 h9 v2 v3 v4 v5 v6 v7 v8 v9 v10 v11) (fun o_3 => [(h0, .inr (11, [.ref h1, .ref h2, .ref h3, .ref h4, .ref h5, .int o_3, .int v2, .int v3, .int v4, .int v5, .ref h6, .int v6, .ref h7, .ref h8, .ref h9, .int v7, .int v8, .int v9, .int v10, .int v11])), (h1, .inl (cy 0, 64, .inl (g))), (h2, .inl (cy 0, 64, .inl (o_1.2))), (h5, .inl (cy 0, 512, .inl (gh)))]) (fun o_3 => 0) (c_X9_fail l hE D cy h0 h1 h2 h3 h4 h5 h6 h7 h8 h9 o_1.1 v2 v3 v4 v5 v6 v7 v8 v9 v10 v11 1 ) hE C zs_X9_87 ⟨Nat.le_of_ble_eq_true rfl, Nat.le_of_ble_eq_true rfl⟩ hP hD hS hA hE0 ⟨rfl, rfl, rfl, by decide, rfl, rfl, rfl⟩ 0 rfl rfl rfl rfl hl.1 (Nat.le_of_ble_eq_true rfl) rfl dX9_hitLane_17 ⟨Nat.le_of_ble_eq_true rfl, Nat.le_of_ble_eq_true rfl⟩ (fun o_3 H locs eo_3 hP hD hS => ?_)
  refine lv_goto (tgt := 32) hX hB dX9_hitLane_20 (by decide) ?_
  exact z_iret' (o_3, o_1.2) (w' := q_X9_hitLane_1 cy h0 h1 h2 h3 h4 h5 h6 h7 h8 h9 v2 v3 v4 v5 v6 v7 v8 v9 v10 v11 g gh) (r0 := (fun (o : Int32 × (Nat → Int32)) => 0)) (by simp only [n_X9_hitLane_1, ← eo_1, ← eo_3]) C hRT hP hD hS (Nat.le_of_ble_eq_true rfl) (Nat.le_of_ble_eq_true rfl) rfl rfl dX9_hitLane_32

def n_X9_hitLane_2 (g : Nat → Int32) (gb : Nat → Int32) : Int32 × (Nat → Int32) :=
  let o_1 := n_X9_begin g gb
  let o_3 := n_X9_fail 2
  (o_3, o_1.2)
def q_X9_hitLane_2 (cy : Nat → ClassId) (h0 : Nat) (h1 : Nat) (h2 : Nat) (h3 : Nat) (h4 : Nat) (h5 : Nat) (h6 : Nat) (h7 : Nat) (h8 : Nat) (h9 : Nat) (v2 : Int32) (v3 : Int32) (v4 : Int32) (v5 : Int32) (v6 : Int32) (v7 : Int32) (v8 : Int32) (v9 : Int32) (v10 : Int32) (v11 : Int32) (g : Nat → Int32) (gh : Nat → Int32) (o : Int32 × (Nat → Int32)) : va_W := [(h0, .inr (11, [.ref h1, .ref h2, .ref h3, .ref h4, .ref h5, .int o.1, .int v2, .int v3, .int v4, .int v5, .ref h6, .int v6, .ref h7, .ref h8, .ref h9, .int v7, .int v8, .int v9, .int v10, .int v11])), (h1, .inl (cy 0, 64, .inl (g))), (h2, .inl (cy 0, 64, .inl (o.2))), (h5, .inl (cy 0, 512, .inl (gh)))]
set_option maxHeartbeats 4000000 in
set_option maxRecDepth 100000 in
theorem c_X9_hitLane_2 (l : Launch) {E : zEn} (hE : zEok E) (D : zG) (cy : Nat → ClassId) (h0 h1 h2 h3 h4 h5 h6 h7 h8 h9 : Nat) (v1 : Int32) (v2 : Int32) (v3 : Int32) (v4 : Int32) (v5 : Int32) (v6 : Int32) (v7 : Int32) (v8 : Int32) (v9 : Int32) (v10 : Int32) (v11 : Int32) (g : Nat → Int32) (gb : Nat → Int32) (gh : Nat → Int32) (x : Int32) (i : Nat) (hx : zi x i) (hxb : i ≤ 3) (hr : ¬ g 0 = 1) (hd : zle v2 8) (sz : Nat) : Met l yX9_hitLane (zws yX9_hitLane cX9_hitLane 3 (some .int)) { frames := 2, cells := 0, slots := 0, locals := 44 } (zPre E D cy [.ref h0, .int x] [(h0, .inr (11, [.ref h1, .ref h2, .ref h3, .ref h4, .ref h5, .int v1, .int v2, .int v3, .int v4, .int v5, .ref h6, .int v6, .ref h7, .ref h8, .ref h9, .int v7, .int v8, .int v9, .int v10, .int v11])), (h1, .inl (cy 0, 64, .inl (g))), (h2, .inl (cy 0, 64, .inl (gb))), (h5, .inl (cy 0, 512, .inl (gh)))] sz) (zQi D ((q_X9_hitLane_2 cy h0 h1 h2 h3 h4 h5 h6 h7 h8 h9 v2 v3 v4 v5 v6 v7 v8 v9 v10 v11 g gh) (n_X9_hitLane_2 g gb)) (va_A [(h0, .inr (11, [.ref h1, .ref h2, .ref h3, .ref h4, .ref h5, .int v1, .int v2, .int v3, .int v4, .int v5, .ref h6, .int v6, .ref h7, .ref h8, .ref h9, .int v7, .int v8, .int v9, .int v10, .int v11])), (h1, .inl (cy 0, 64, .inl (g))), (h2, .inl (cy 0, 64, .inl (gb))), (h5, .inl (cy 0, 512, .inl (gh)))] sz) (0)) 0 0 (va_A [(h0, .inr (11, [.ref h1, .ref h2, .ref h3, .ref h4, .ref h5, .int v1, .int v2, .int v3, .int v4, .int v5, .ref h6, .int v6, .ref h7, .ref h8, .ref h9, .int v7, .int v8, .int v9, .int v10, .int v11])), (h1, .inl (cy 0, 64, .inl (g))), (h2, .inl (cy 0, 64, .inl (gb))), (h5, .inl (cy 0, 512, .inl (gh)))] sz) := by
  refine z_of (Qc := fun A => zQi D ((q_X9_hitLane_2 cy h0 h1 h2 h3 h4 h5 h6 h7 h8 h9 v2 v3 v4 v5 v6 v7 v8 v9 v10 v11 g gh) (n_X9_hitLane_2 g gb)) A (0)) (by decide +kernel) (Nat.le_of_ble_eq_true rfl) rfl ?_
  intro pG eN sT mI below meth cO A ls C hRT hnm hA hP hD hS hE0 hl
  have hX := C.x
  have hB := C.b
  have hd_ := hd.2
  refine lv_aload_n hX hB dX9_hitLane_0 rfl (lv_at hl 0 rfl) ?_
  refine z_callVv (isC := [0, 1, 2]) (isR := [3]) (isO := [1, 2, 3, 0]) (n_X9_begin g gb) (q_X9_begin cy h0 h1 h2 h3 h4 h5 h6 h7 h8 h9 v2 v3 v4 v5 v6 v7 v8 v9 v10 v11 g) (fun o_1 => [(h0, .inr (11, [.ref h1, .ref h2, .ref h3, .ref h4, .ref h5, .int o_1.1, .int v2, .int v3, .int v4, .int v5, .ref h6, .int v6, .ref h7, .ref h8, .ref h9, .int v7, .int v8, .int v9, .int v10, .int v11])), (h1, .inl (cy 0, 64, .inl (g))), (h2, .inl (cy 0, 64, .inl (o_1.2))), (h5, .inl (cy 0, 512, .inl (gh)))]) (c_X9_begin l hE D cy h0 h1 h2 h3 h4 h5 h6 h7 h8 h9 v1 v2 v3 v4 v5 v6 v7 v8 v9 v10 v11 g gb ) hE C zs_X9_80 ⟨Nat.le_of_ble_eq_true rfl, Nat.le_of_ble_eq_true rfl⟩ hP hD hS hA hE0 ⟨rfl, rfl, rfl, by decide, rfl, rfl, rfl⟩ 0 rfl rfl rfl rfl hl.1 (Nat.le_of_ble_eq_true rfl) rfl dX9_hitLane_1 ⟨Nat.le_of_ble_eq_true rfl, Nat.le_of_ble_eq_true rfl⟩ (fun o_1 H locs eo_1 hP hD hS => ?_)
  refine lv_aload_n hX hB dX9_hitLane_4 rfl (lv_at hl 0 rfl) ?_
  refine lv_iload_n hX hB dX9_hitLane_5 rfl (lv_at hl 1 rfl) ?_
  refine lv_iconst (v := 4) hX hB dX9_hitLane_6 (by decide) ?_
  refine z_callVi (isC := [0, 1]) (isR := [2, 3]) (isO := [2, 3, 0, 1]) (()) (q_X9_cannotHit4_2 cy h0 h1 h2 h3 h4 h5 h6 h7 h8 h9 o_1.1 v2 v3 v4 v5 v6 v7 v8 v9 v10 v11 g) (fun o_2 => [(h0, .inr (11, [.ref h1, .ref h2, .ref h3, .ref h4, .ref h5, .int o_1.1, .int v2, .int v3, .int v4, .int v5, .ref h6, .int v6, .ref h7, .ref h8, .ref h9, .int v7, .int v8, .int v9, .int v10, .int v11])), (h1, .inl (cy 0, 64, .inl (g))), (h2, .inl (cy 0, 64, .inl (o_1.2))), (h5, .inl (cy 0, 512, .inl (gh)))]) (fun o_2 => 2) (c_X9_cannotHit4_2 l hE D cy h0 h1 h2 h3 h4 h5 h6 h7 h8 h9 o_1.1 v2 v3 v4 v5 v6 v7 v8 v9 v10 v11 g x i hx (by omega) hr) hE C zs_X9_131 ⟨Nat.le_of_ble_eq_true rfl, Nat.le_of_ble_eq_true rfl⟩ hP hD hS hA hE0 ⟨rfl, rfl, rfl, by decide, rfl, rfl, rfl⟩ 0 rfl rfl rfl rfl hl.1 (Nat.le_of_ble_eq_true rfl) rfl dX9_hitLane_7 ⟨Nat.le_of_ble_eq_true rfl, Nat.le_of_ble_eq_true rfl⟩ (fun o_2 H locs eo_2 hP hD hS => ?_)
  refine lv_istore_n (lv' := [(2, .int 2), (0, .ref h0), (1, .int x)]) hX hB dX9_hitLane_10 rfl hl (by decide) rfl (fun ls hl => ?_)
  refine lv_iload_n hX hB dX9_hitLane_11 rfl (lv_at hl 0 rfl) ?_
  refine lv_if_le (tgt := 23) hX hB dX9_hitLane_12 (by decide) (fun c => absurd c (by decide)) (fun _ => ?_)
  refine lv_aload_n hX hB dX9_hitLane_15 rfl (lv_at hl 1 rfl) ?_
  refine lv_iload_n hX hB dX9_hitLane_16 rfl (lv_at hl 0 rfl) ?_
  refine z_callVi (isC := [0]) (isR := [1, 2, 3]) (isO := [3, 0, 1, 2]) (n_X9_fail 2) (q_X9_fail h0 h1 h2 h3 h4 h5 h6 h7 h8 h9 v2 v3 v4 v5 v6 v7 v8 v9 v10 v11) (fun o_3 => [(h0, .inr (11, [.ref h1, .ref h2, .ref h3, .ref h4, .ref h5, .int o_3, .int v2, .int v3, .int v4, .int v5, .ref h6, .int v6, .ref h7, .ref h8, .ref h9, .int v7, .int v8, .int v9, .int v10, .int v11])), (h1, .inl (cy 0, 64, .inl (g))), (h2, .inl (cy 0, 64, .inl (o_1.2))), (h5, .inl (cy 0, 512, .inl (gh)))]) (fun o_3 => 0) (c_X9_fail l hE D cy h0 h1 h2 h3 h4 h5 h6 h7 h8 h9 o_1.1 v2 v3 v4 v5 v6 v7 v8 v9 v10 v11 2 ) hE C zs_X9_87 ⟨Nat.le_of_ble_eq_true rfl, Nat.le_of_ble_eq_true rfl⟩ hP hD hS hA hE0 ⟨rfl, rfl, rfl, by decide, rfl, rfl, rfl⟩ 0 rfl rfl rfl rfl hl.1 (Nat.le_of_ble_eq_true rfl) rfl dX9_hitLane_17 ⟨Nat.le_of_ble_eq_true rfl, Nat.le_of_ble_eq_true rfl⟩ (fun o_3 H locs eo_3 hP hD hS => ?_)
  refine lv_goto (tgt := 32) hX hB dX9_hitLane_20 (by decide) ?_
  exact z_iret' (o_3, o_1.2) (w' := q_X9_hitLane_2 cy h0 h1 h2 h3 h4 h5 h6 h7 h8 h9 v2 v3 v4 v5 v6 v7 v8 v9 v10 v11 g gh) (r0 := (fun (o : Int32 × (Nat → Int32)) => 0)) (by simp only [n_X9_hitLane_2, ← eo_1, ← eo_3]) C hRT hP hD hS (Nat.le_of_ble_eq_true rfl) (Nat.le_of_ble_eq_true rfl) rfl rfl dX9_hitLane_32

def n_X9_hitBumper_ok (v2 : Int32) (g : Nat → Int32) (gb : Nat → Int32) (gh : Nat → Int32) (i : Nat) : Int32 × Int32 × Int32 × (Nat → Int32) × (Nat → Int32) × (Nat → Int32) :=
  let o_1 := n_X9_begin g gb
  let o_3 := n_X9_hitsBumper g i
  let o_4 := n_X9_commit v2 o_1.2 gh o_3.1
  (o_4.1, o_1.1, o_4.2.1, o_3.2, o_1.2, o_4.2.2)
def q_X9_hitBumper_ok (cy : Nat → ClassId) (h0 : Nat) (h1 : Nat) (h2 : Nat) (h3 : Nat) (h4 : Nat) (h5 : Nat) (h6 : Nat) (h7 : Nat) (h8 : Nat) (h9 : Nat) (v3 : Int32) (v4 : Int32) (v5 : Int32) (v6 : Int32) (v7 : Int32) (v8 : Int32) (v9 : Int32) (v10 : Int32) (v11 : Int32) (o : Int32 × Int32 × Int32 × (Nat → Int32) × (Nat → Int32) × (Nat → Int32)) : va_W := [(h0, .inr (11, [.ref h1, .ref h2, .ref h3, .ref h4, .ref h5, .int o.2.1, .int o.2.2.1, .int v3, .int v4, .int v5, .ref h6, .int v6, .ref h7, .ref h8, .ref h9, .int v7, .int v8, .int v9, .int v10, .int v11])), (h1, .inl (cy 0, 64, .inl (o.2.2.2.1))), (h2, .inl (cy 0, 64, .inl (o.2.2.2.2.1))), (h5, .inl (cy 0, 512, .inl (o.2.2.2.2.2)))]
set_option maxHeartbeats 4000000 in
set_option maxRecDepth 100000 in
theorem c_X9_hitBumper_ok (l : Launch) {E : zEn} (hE : zEok E) (D : zG) (cy : Nat → ClassId) (h0 h1 h2 h3 h4 h5 h6 h7 h8 h9 : Nat) (v1 : Int32) (v2 : Int32) (v3 : Int32) (v4 : Int32) (v5 : Int32) (v6 : Int32) (v7 : Int32) (v8 : Int32) (v9 : Int32) (v10 : Int32) (v11 : Int32) (g : Nat → Int32) (gb : Nat → Int32) (gh : Nat → Int32) (x : Int32) (i : Nat) (hx : zi x i) (hxb : i ≤ 2) (hr : g 0 = 1) (hc : zle (g 3) 3) (hd : zle v2 8) (sz : Nat) : Met l yX9_hitBumper (zws yX9_hitBumper cX9_hitBumper 3 (some .int)) { frames := 3, cells := 0, slots := 0, locals := 67 } (zPre E D cy [.ref h0, .int x] [(h0, .inr (11, [.ref h1, .ref h2, .ref h3, .ref h4, .ref h5, .int v1, .int v2, .int v3, .int v4, .int v5, .ref h6, .int v6, .ref h7, .ref h8, .ref h9, .int v7, .int v8, .int v9, .int v10, .int v11])), (h1, .inl (cy 0, 64, .inl (g))), (h2, .inl (cy 0, 64, .inl (gb))), (h5, .inl (cy 0, 512, .inl (gh)))] sz) (zQi D ((q_X9_hitBumper_ok cy h0 h1 h2 h3 h4 h5 h6 h7 h8 h9 v3 v4 v5 v6 v7 v8 v9 v10 v11) (n_X9_hitBumper_ok v2 g gb gh i)) (va_A [(h0, .inr (11, [.ref h1, .ref h2, .ref h3, .ref h4, .ref h5, .int v1, .int v2, .int v3, .int v4, .int v5, .ref h6, .int v6, .ref h7, .ref h8, .ref h9, .int v7, .int v8, .int v9, .int v10, .int v11])), (h1, .inl (cy 0, 64, .inl (g))), (h2, .inl (cy 0, 64, .inl (gb))), (h5, .inl (cy 0, 512, .inl (gh)))] sz) ((n_X9_hitBumper_ok v2 g gb gh i).1)) 0 0 (va_A [(h0, .inr (11, [.ref h1, .ref h2, .ref h3, .ref h4, .ref h5, .int v1, .int v2, .int v3, .int v4, .int v5, .ref h6, .int v6, .ref h7, .ref h8, .ref h9, .int v7, .int v8, .int v9, .int v10, .int v11])), (h1, .inl (cy 0, 64, .inl (g))), (h2, .inl (cy 0, 64, .inl (gb))), (h5, .inl (cy 0, 512, .inl (gh)))] sz) := by
  refine z_of (Qc := fun A => zQi D ((q_X9_hitBumper_ok cy h0 h1 h2 h3 h4 h5 h6 h7 h8 h9 v3 v4 v5 v6 v7 v8 v9 v10 v11) (n_X9_hitBumper_ok v2 g gb gh i)) A ((n_X9_hitBumper_ok v2 g gb gh i).1)) (by decide +kernel) (Nat.le_of_ble_eq_true rfl) rfl ?_
  intro pG eN sT mI below meth cO A ls C hRT hnm hA hP hD hS hE0 hl
  have hX := C.x
  have hB := C.b
  have hc_ := hc.2
  have hd_ := hd.2
  refine lv_aload_n hX hB dX9_hitBumper_0 rfl (lv_at hl 0 rfl) ?_
  refine z_callVv (isC := [0, 1, 2]) (isR := [3]) (isO := [1, 2, 3, 0]) (n_X9_begin g gb) (q_X9_begin cy h0 h1 h2 h3 h4 h5 h6 h7 h8 h9 v2 v3 v4 v5 v6 v7 v8 v9 v10 v11 g) (fun o_1 => [(h0, .inr (11, [.ref h1, .ref h2, .ref h3, .ref h4, .ref h5, .int o_1.1, .int v2, .int v3, .int v4, .int v5, .ref h6, .int v6, .ref h7, .ref h8, .ref h9, .int v7, .int v8, .int v9, .int v10, .int v11])), (h1, .inl (cy 0, 64, .inl (g))), (h2, .inl (cy 0, 64, .inl (o_1.2))), (h5, .inl (cy 0, 512, .inl (gh)))]) (c_X9_begin l hE D cy h0 h1 h2 h3 h4 h5 h6 h7 h8 h9 v1 v2 v3 v4 v5 v6 v7 v8 v9 v10 v11 g gb ) hE C zs_X9_80 ⟨Nat.le_of_ble_eq_true rfl, Nat.le_of_ble_eq_true rfl⟩ hP hD hS hA hE0 ⟨rfl, rfl, rfl, by decide, rfl, rfl, rfl⟩ 0 rfl rfl rfl rfl hl.1 (Nat.le_of_ble_eq_true rfl) rfl dX9_hitBumper_1 ⟨Nat.le_of_ble_eq_true rfl, Nat.le_of_ble_eq_true rfl⟩ (fun o_1 H locs eo_1 hP hD hS => ?_)
  refine lv_aload_n hX hB dX9_hitBumper_4 rfl (lv_at hl 0 rfl) ?_
  refine lv_iload_n hX hB dX9_hitBumper_5 rfl (lv_at hl 1 rfl) ?_
  refine lv_iconst (v := 3) hX hB dX9_hitBumper_6 (by decide) ?_
  refine z_callVi (isC := [0, 1]) (isR := [2, 3]) (isO := [2, 3, 0, 1]) (()) (q_X9_cannotHit3_ok cy h0 h1 h2 h3 h4 h5 h6 h7 h8 h9 o_1.1 v2 v3 v4 v5 v6 v7 v8 v9 v10 v11 g) (fun o_2 => [(h0, .inr (11, [.ref h1, .ref h2, .ref h3, .ref h4, .ref h5, .int o_1.1, .int v2, .int v3, .int v4, .int v5, .ref h6, .int v6, .ref h7, .ref h8, .ref h9, .int v7, .int v8, .int v9, .int v10, .int v11])), (h1, .inl (cy 0, 64, .inl (g))), (h2, .inl (cy 0, 64, .inl (o_1.2))), (h5, .inl (cy 0, 512, .inl (gh)))]) (fun o_2 => 0) (c_X9_cannotHit3_ok l hE D cy h0 h1 h2 h3 h4 h5 h6 h7 h8 h9 o_1.1 v2 v3 v4 v5 v6 v7 v8 v9 v10 v11 g x i hx (by omega) hr) hE C zs_X9_131 ⟨Nat.le_of_ble_eq_true rfl, Nat.le_of_ble_eq_true rfl⟩ hP hD hS hA hE0 ⟨rfl, rfl, rfl, by decide, rfl, rfl, rfl⟩ 0 rfl rfl rfl rfl hl.1 (Nat.le_of_ble_eq_true rfl) rfl dX9_hitBumper_7 ⟨Nat.le_of_ble_eq_true rfl, Nat.le_of_ble_eq_true rfl⟩ (fun o_2 H locs eo_2 hP hD hS => ?_)
  refine lv_istore_n (lv' := [(2, .int 0), (0, .ref h0), (1, .int x)]) hX hB dX9_hitBumper_10 rfl hl (by decide) rfl (fun ls hl => ?_)
  refine lv_iload_n hX hB dX9_hitBumper_11 rfl (lv_at hl 0 rfl) ?_
  refine lv_if_le (tgt := 23) hX hB dX9_hitBumper_12 (by decide) (fun _ => ?_) (fun c => absurd (by decide) c)
  refine lv_aload_n hX hB dX9_hitBumper_23 rfl (lv_at hl 1 rfl) ?_
  refine lv_aload_n hX hB dX9_hitBumper_24 rfl (lv_at hl 1 rfl) ?_
  refine lv_iload_n hX hB dX9_hitBumper_25 rfl (lv_at hl 2 rfl) ?_
  refine z_callVi (isC := [0, 1]) (isR := [2, 3]) (isO := [2, 3, 0, 1]) (n_X9_hitsBumper g i) (q_X9_hitsBumper cy h0 h1 h2 h3 h4 h5 h6 h7 h8 h9 o_1.1 v2 v3 v4 v5 v6 v7 v8 v9 v10 v11) (fun o_3 => [(h0, .inr (11, [.ref h1, .ref h2, .ref h3, .ref h4, .ref h5, .int o_1.1, .int v2, .int v3, .int v4, .int v5, .ref h6, .int v6, .ref h7, .ref h8, .ref h9, .int v7, .int v8, .int v9, .int v10, .int v11])), (h1, .inl (cy 0, 64, .inl (o_3.2))), (h2, .inl (cy 0, 64, .inl (o_1.2))), (h5, .inl (cy 0, 512, .inl (gh)))]) (fun o_3 => o_3.1) (c_X9_hitsBumper l hE D cy h0 h1 h2 h3 h4 h5 h6 h7 h8 h9 o_1.1 v2 v3 v4 v5 v6 v7 v8 v9 v10 v11 g x i hx (by omega) (zle_of (zi_tr rfl hc.1) (by omega) (by decide))) hE C zs_X9_137 ⟨Nat.le_of_ble_eq_true rfl, Nat.le_of_ble_eq_true rfl⟩ hP hD hS hA hE0 ⟨rfl, rfl, rfl, by decide, rfl, rfl, rfl⟩ 0 rfl rfl rfl rfl hl.1 (Nat.le_of_ble_eq_true rfl) rfl dX9_hitBumper_26 ⟨Nat.le_of_ble_eq_true rfl, Nat.le_of_ble_eq_true rfl⟩ (fun o_3 H locs eo_3 hP hD hS => ?_)
  refine z_callVi (isC := [0, 2, 3]) (isR := [1]) (isO := [1, 0, 2, 3]) (n_X9_commit v2 o_1.2 gh o_3.1) (q_X9_commit cy h0 h1 h2 h3 h4 h5 h6 h7 h8 h9 o_1.1 v3 v4 v5 v6 v7 v8 v9 v10 v11 o_1.2) (fun o_4 => [(h0, .inr (11, [.ref h1, .ref h2, .ref h3, .ref h4, .ref h5, .int o_1.1, .int o_4.2.1, .int v3, .int v4, .int v5, .ref h6, .int v6, .ref h7, .ref h8, .ref h9, .int v7, .int v8, .int v9, .int v10, .int v11])), (h1, .inl (cy 0, 64, .inl (o_3.2))), (h2, .inl (cy 0, 64, .inl (o_1.2))), (h5, .inl (cy 0, 512, .inl (o_4.2.2)))]) (fun o_4 => o_4.1) (c_X9_commit l hE D cy h0 h1 h2 h3 h4 h5 h6 h7 h8 h9 o_1.1 v2 v3 v4 v5 v6 v7 v8 v9 v10 v11 o_1.2 gh o_3.1 (zle_of hd.1 (by omega) (by decide))) hE C zs_X9_94 ⟨Nat.le_of_ble_eq_true rfl, Nat.le_of_ble_eq_true rfl⟩ hP hD hS hA hE0 ⟨rfl, rfl, rfl, by decide, rfl, rfl, rfl⟩ 0 rfl rfl rfl rfl hl.1 (Nat.le_of_ble_eq_true rfl) rfl dX9_hitBumper_29 ⟨Nat.le_of_ble_eq_true rfl, Nat.le_of_ble_eq_true rfl⟩ (fun o_4 H locs eo_4 hP hD hS => ?_)
  exact z_iret' (o_4.1, o_1.1, o_4.2.1, o_3.2, o_1.2, o_4.2.2) (w' := q_X9_hitBumper_ok cy h0 h1 h2 h3 h4 h5 h6 h7 h8 h9 v3 v4 v5 v6 v7 v8 v9 v10 v11) (r0 := (fun (o : Int32 × Int32 × Int32 × (Nat → Int32) × (Nat → Int32) × (Nat → Int32)) => o.1)) (by simp only [n_X9_hitBumper_ok, ← eo_1, ← eo_3, ← eo_4]) C hRT hP hD hS (Nat.le_of_ble_eq_true rfl) (Nat.le_of_ble_eq_true rfl) rfl rfl dX9_hitBumper_32

def n_X9_hitBumper_1 (g : Nat → Int32) (gb : Nat → Int32) : Int32 × (Nat → Int32) :=
  let o_1 := n_X9_begin g gb
  let o_3 := n_X9_fail 1
  (o_3, o_1.2)
def q_X9_hitBumper_1 (cy : Nat → ClassId) (h0 : Nat) (h1 : Nat) (h2 : Nat) (h3 : Nat) (h4 : Nat) (h5 : Nat) (h6 : Nat) (h7 : Nat) (h8 : Nat) (h9 : Nat) (v2 : Int32) (v3 : Int32) (v4 : Int32) (v5 : Int32) (v6 : Int32) (v7 : Int32) (v8 : Int32) (v9 : Int32) (v10 : Int32) (v11 : Int32) (g : Nat → Int32) (gh : Nat → Int32) (o : Int32 × (Nat → Int32)) : va_W := [(h0, .inr (11, [.ref h1, .ref h2, .ref h3, .ref h4, .ref h5, .int o.1, .int v2, .int v3, .int v4, .int v5, .ref h6, .int v6, .ref h7, .ref h8, .ref h9, .int v7, .int v8, .int v9, .int v10, .int v11])), (h1, .inl (cy 0, 64, .inl (g))), (h2, .inl (cy 0, 64, .inl (o.2))), (h5, .inl (cy 0, 512, .inl (gh)))]
set_option maxHeartbeats 4000000 in
set_option maxRecDepth 100000 in
theorem c_X9_hitBumper_1 (l : Launch) {E : zEn} (hE : zEok E) (D : zG) (cy : Nat → ClassId) (h0 h1 h2 h3 h4 h5 h6 h7 h8 h9 : Nat) (v1 : Int32) (v2 : Int32) (v3 : Int32) (v4 : Int32) (v5 : Int32) (v6 : Int32) (v7 : Int32) (v8 : Int32) (v9 : Int32) (v10 : Int32) (v11 : Int32) (g : Nat → Int32) (gb : Nat → Int32) (gh : Nat → Int32) (x : Int32) (hin : n_X9_in x 0 2 = 0) (hd : zle v2 8) (sz : Nat) : Met l yX9_hitBumper (zws yX9_hitBumper cX9_hitBumper 3 (some .int)) { frames := 2, cells := 0, slots := 0, locals := 44 } (zPre E D cy [.ref h0, .int x] [(h0, .inr (11, [.ref h1, .ref h2, .ref h3, .ref h4, .ref h5, .int v1, .int v2, .int v3, .int v4, .int v5, .ref h6, .int v6, .ref h7, .ref h8, .ref h9, .int v7, .int v8, .int v9, .int v10, .int v11])), (h1, .inl (cy 0, 64, .inl (g))), (h2, .inl (cy 0, 64, .inl (gb))), (h5, .inl (cy 0, 512, .inl (gh)))] sz) (zQi D ((q_X9_hitBumper_1 cy h0 h1 h2 h3 h4 h5 h6 h7 h8 h9 v2 v3 v4 v5 v6 v7 v8 v9 v10 v11 g gh) (n_X9_hitBumper_1 g gb)) (va_A [(h0, .inr (11, [.ref h1, .ref h2, .ref h3, .ref h4, .ref h5, .int v1, .int v2, .int v3, .int v4, .int v5, .ref h6, .int v6, .ref h7, .ref h8, .ref h9, .int v7, .int v8, .int v9, .int v10, .int v11])), (h1, .inl (cy 0, 64, .inl (g))), (h2, .inl (cy 0, 64, .inl (gb))), (h5, .inl (cy 0, 512, .inl (gh)))] sz) (0)) 0 0 (va_A [(h0, .inr (11, [.ref h1, .ref h2, .ref h3, .ref h4, .ref h5, .int v1, .int v2, .int v3, .int v4, .int v5, .ref h6, .int v6, .ref h7, .ref h8, .ref h9, .int v7, .int v8, .int v9, .int v10, .int v11])), (h1, .inl (cy 0, 64, .inl (g))), (h2, .inl (cy 0, 64, .inl (gb))), (h5, .inl (cy 0, 512, .inl (gh)))] sz) := by
  refine z_of (Qc := fun A => zQi D ((q_X9_hitBumper_1 cy h0 h1 h2 h3 h4 h5 h6 h7 h8 h9 v2 v3 v4 v5 v6 v7 v8 v9 v10 v11 g gh) (n_X9_hitBumper_1 g gb)) A (0)) (by decide +kernel) (Nat.le_of_ble_eq_true rfl) rfl ?_
  intro pG eN sT mI below meth cO A ls C hRT hnm hA hP hD hS hE0 hl
  have hX := C.x
  have hB := C.b
  have hd_ := hd.2
  refine lv_aload_n hX hB dX9_hitBumper_0 rfl (lv_at hl 0 rfl) ?_
  refine z_callVv (isC := [0, 1, 2]) (isR := [3]) (isO := [1, 2, 3, 0]) (n_X9_begin g gb) (q_X9_begin cy h0 h1 h2 h3 h4 h5 h6 h7 h8 h9 v2 v3 v4 v5 v6 v7 v8 v9 v10 v11 g) (fun o_1 => [(h0, .inr (11, [.ref h1, .ref h2, .ref h3, .ref h4, .ref h5, .int o_1.1, .int v2, .int v3, .int v4, .int v5, .ref h6, .int v6, .ref h7, .ref h8, .ref h9, .int v7, .int v8, .int v9, .int v10, .int v11])), (h1, .inl (cy 0, 64, .inl (g))), (h2, .inl (cy 0, 64, .inl (o_1.2))), (h5, .inl (cy 0, 512, .inl (gh)))]) (c_X9_begin l hE D cy h0 h1 h2 h3 h4 h5 h6 h7 h8 h9 v1 v2 v3 v4 v5 v6 v7 v8 v9 v10 v11 g gb ) hE C zs_X9_80 ⟨Nat.le_of_ble_eq_true rfl, Nat.le_of_ble_eq_true rfl⟩ hP hD hS hA hE0 ⟨rfl, rfl, rfl, by decide, rfl, rfl, rfl⟩ 0 rfl rfl rfl rfl hl.1 (Nat.le_of_ble_eq_true rfl) rfl dX9_hitBumper_1 ⟨Nat.le_of_ble_eq_true rfl, Nat.le_of_ble_eq_true rfl⟩ (fun o_1 H locs eo_1 hP hD hS => ?_)
  refine lv_aload_n hX hB dX9_hitBumper_4 rfl (lv_at hl 0 rfl) ?_
  refine lv_iload_n hX hB dX9_hitBumper_5 rfl (lv_at hl 1 rfl) ?_
  refine lv_iconst (v := 3) hX hB dX9_hitBumper_6 (by decide) ?_
  refine z_callVi (isC := [0, 1]) (isR := [2, 3]) (isO := [2, 3, 0, 1]) (()) (q_X9_cannotHit3_1 cy h0 h1 h2 h3 h4 h5 h6 h7 h8 h9 o_1.1 v2 v3 v4 v5 v6 v7 v8 v9 v10 v11 g) (fun o_2 => [(h0, .inr (11, [.ref h1, .ref h2, .ref h3, .ref h4, .ref h5, .int o_1.1, .int v2, .int v3, .int v4, .int v5, .ref h6, .int v6, .ref h7, .ref h8, .ref h9, .int v7, .int v8, .int v9, .int v10, .int v11])), (h1, .inl (cy 0, 64, .inl (g))), (h2, .inl (cy 0, 64, .inl (o_1.2))), (h5, .inl (cy 0, 512, .inl (gh)))]) (fun o_2 => 1) (c_X9_cannotHit3_1 l hE D cy h0 h1 h2 h3 h4 h5 h6 h7 h8 h9 o_1.1 v2 v3 v4 v5 v6 v7 v8 v9 v10 v11 g x hin) hE C zs_X9_131 ⟨Nat.le_of_ble_eq_true rfl, Nat.le_of_ble_eq_true rfl⟩ hP hD hS hA hE0 ⟨rfl, rfl, rfl, by decide, rfl, rfl, rfl⟩ 0 rfl rfl rfl rfl hl.1 (Nat.le_of_ble_eq_true rfl) rfl dX9_hitBumper_7 ⟨Nat.le_of_ble_eq_true rfl, Nat.le_of_ble_eq_true rfl⟩ (fun o_2 H locs eo_2 hP hD hS => ?_)
  refine lv_istore_n (lv' := [(2, .int 1), (0, .ref h0), (1, .int x)]) hX hB dX9_hitBumper_10 rfl hl (by decide) rfl (fun ls hl => ?_)
  refine lv_iload_n hX hB dX9_hitBumper_11 rfl (lv_at hl 0 rfl) ?_
  refine lv_if_le (tgt := 23) hX hB dX9_hitBumper_12 (by decide) (fun c => absurd c (by decide)) (fun _ => ?_)
  refine lv_aload_n hX hB dX9_hitBumper_15 rfl (lv_at hl 1 rfl) ?_
  refine lv_iload_n hX hB dX9_hitBumper_16 rfl (lv_at hl 0 rfl) ?_
  refine z_callVi (isC := [0]) (isR := [1, 2, 3]) (isO := [3, 0, 1, 2]) (n_X9_fail 1) (q_X9_fail h0 h1 h2 h3 h4 h5 h6 h7 h8 h9 v2 v3 v4 v5 v6 v7 v8 v9 v10 v11) (fun o_3 => [(h0, .inr (11, [.ref h1, .ref h2, .ref h3, .ref h4, .ref h5, .int o_3, .int v2, .int v3, .int v4, .int v5, .ref h6, .int v6, .ref h7, .ref h8, .ref h9, .int v7, .int v8, .int v9, .int v10, .int v11])), (h1, .inl (cy 0, 64, .inl (g))), (h2, .inl (cy 0, 64, .inl (o_1.2))), (h5, .inl (cy 0, 512, .inl (gh)))]) (fun o_3 => 0) (c_X9_fail l hE D cy h0 h1 h2 h3 h4 h5 h6 h7 h8 h9 o_1.1 v2 v3 v4 v5 v6 v7 v8 v9 v10 v11 1 ) hE C zs_X9_87 ⟨Nat.le_of_ble_eq_true rfl, Nat.le_of_ble_eq_true rfl⟩ hP hD hS hA hE0 ⟨rfl, rfl, rfl, by decide, rfl, rfl, rfl⟩ 0 rfl rfl rfl rfl hl.1 (Nat.le_of_ble_eq_true rfl) rfl dX9_hitBumper_17 ⟨Nat.le_of_ble_eq_true rfl, Nat.le_of_ble_eq_true rfl⟩ (fun o_3 H locs eo_3 hP hD hS => ?_)
  refine lv_goto (tgt := 32) hX hB dX9_hitBumper_20 (by decide) ?_
  exact z_iret' (o_3, o_1.2) (w' := q_X9_hitBumper_1 cy h0 h1 h2 h3 h4 h5 h6 h7 h8 h9 v2 v3 v4 v5 v6 v7 v8 v9 v10 v11 g gh) (r0 := (fun (o : Int32 × (Nat → Int32)) => 0)) (by simp only [n_X9_hitBumper_1, ← eo_1, ← eo_3]) C hRT hP hD hS (Nat.le_of_ble_eq_true rfl) (Nat.le_of_ble_eq_true rfl) rfl rfl dX9_hitBumper_32

def n_X9_hitBumper_2 (g : Nat → Int32) (gb : Nat → Int32) : Int32 × (Nat → Int32) :=
  let o_1 := n_X9_begin g gb
  let o_3 := n_X9_fail 2
  (o_3, o_1.2)
def q_X9_hitBumper_2 (cy : Nat → ClassId) (h0 : Nat) (h1 : Nat) (h2 : Nat) (h3 : Nat) (h4 : Nat) (h5 : Nat) (h6 : Nat) (h7 : Nat) (h8 : Nat) (h9 : Nat) (v2 : Int32) (v3 : Int32) (v4 : Int32) (v5 : Int32) (v6 : Int32) (v7 : Int32) (v8 : Int32) (v9 : Int32) (v10 : Int32) (v11 : Int32) (g : Nat → Int32) (gh : Nat → Int32) (o : Int32 × (Nat → Int32)) : va_W := [(h0, .inr (11, [.ref h1, .ref h2, .ref h3, .ref h4, .ref h5, .int o.1, .int v2, .int v3, .int v4, .int v5, .ref h6, .int v6, .ref h7, .ref h8, .ref h9, .int v7, .int v8, .int v9, .int v10, .int v11])), (h1, .inl (cy 0, 64, .inl (g))), (h2, .inl (cy 0, 64, .inl (o.2))), (h5, .inl (cy 0, 512, .inl (gh)))]
set_option maxHeartbeats 4000000 in
set_option maxRecDepth 100000 in
theorem c_X9_hitBumper_2 (l : Launch) {E : zEn} (hE : zEok E) (D : zG) (cy : Nat → ClassId) (h0 h1 h2 h3 h4 h5 h6 h7 h8 h9 : Nat) (v1 : Int32) (v2 : Int32) (v3 : Int32) (v4 : Int32) (v5 : Int32) (v6 : Int32) (v7 : Int32) (v8 : Int32) (v9 : Int32) (v10 : Int32) (v11 : Int32) (g : Nat → Int32) (gb : Nat → Int32) (gh : Nat → Int32) (x : Int32) (i : Nat) (hx : zi x i) (hxb : i ≤ 2) (hr : ¬ g 0 = 1) (hd : zle v2 8) (sz : Nat) : Met l yX9_hitBumper (zws yX9_hitBumper cX9_hitBumper 3 (some .int)) { frames := 2, cells := 0, slots := 0, locals := 44 } (zPre E D cy [.ref h0, .int x] [(h0, .inr (11, [.ref h1, .ref h2, .ref h3, .ref h4, .ref h5, .int v1, .int v2, .int v3, .int v4, .int v5, .ref h6, .int v6, .ref h7, .ref h8, .ref h9, .int v7, .int v8, .int v9, .int v10, .int v11])), (h1, .inl (cy 0, 64, .inl (g))), (h2, .inl (cy 0, 64, .inl (gb))), (h5, .inl (cy 0, 512, .inl (gh)))] sz) (zQi D ((q_X9_hitBumper_2 cy h0 h1 h2 h3 h4 h5 h6 h7 h8 h9 v2 v3 v4 v5 v6 v7 v8 v9 v10 v11 g gh) (n_X9_hitBumper_2 g gb)) (va_A [(h0, .inr (11, [.ref h1, .ref h2, .ref h3, .ref h4, .ref h5, .int v1, .int v2, .int v3, .int v4, .int v5, .ref h6, .int v6, .ref h7, .ref h8, .ref h9, .int v7, .int v8, .int v9, .int v10, .int v11])), (h1, .inl (cy 0, 64, .inl (g))), (h2, .inl (cy 0, 64, .inl (gb))), (h5, .inl (cy 0, 512, .inl (gh)))] sz) (0)) 0 0 (va_A [(h0, .inr (11, [.ref h1, .ref h2, .ref h3, .ref h4, .ref h5, .int v1, .int v2, .int v3, .int v4, .int v5, .ref h6, .int v6, .ref h7, .ref h8, .ref h9, .int v7, .int v8, .int v9, .int v10, .int v11])), (h1, .inl (cy 0, 64, .inl (g))), (h2, .inl (cy 0, 64, .inl (gb))), (h5, .inl (cy 0, 512, .inl (gh)))] sz) := by
  refine z_of (Qc := fun A => zQi D ((q_X9_hitBumper_2 cy h0 h1 h2 h3 h4 h5 h6 h7 h8 h9 v2 v3 v4 v5 v6 v7 v8 v9 v10 v11 g gh) (n_X9_hitBumper_2 g gb)) A (0)) (by decide +kernel) (Nat.le_of_ble_eq_true rfl) rfl ?_
  intro pG eN sT mI below meth cO A ls C hRT hnm hA hP hD hS hE0 hl
  have hX := C.x
  have hB := C.b
  have hd_ := hd.2
  refine lv_aload_n hX hB dX9_hitBumper_0 rfl (lv_at hl 0 rfl) ?_
  refine z_callVv (isC := [0, 1, 2]) (isR := [3]) (isO := [1, 2, 3, 0]) (n_X9_begin g gb) (q_X9_begin cy h0 h1 h2 h3 h4 h5 h6 h7 h8 h9 v2 v3 v4 v5 v6 v7 v8 v9 v10 v11 g) (fun o_1 => [(h0, .inr (11, [.ref h1, .ref h2, .ref h3, .ref h4, .ref h5, .int o_1.1, .int v2, .int v3, .int v4, .int v5, .ref h6, .int v6, .ref h7, .ref h8, .ref h9, .int v7, .int v8, .int v9, .int v10, .int v11])), (h1, .inl (cy 0, 64, .inl (g))), (h2, .inl (cy 0, 64, .inl (o_1.2))), (h5, .inl (cy 0, 512, .inl (gh)))]) (c_X9_begin l hE D cy h0 h1 h2 h3 h4 h5 h6 h7 h8 h9 v1 v2 v3 v4 v5 v6 v7 v8 v9 v10 v11 g gb ) hE C zs_X9_80 ⟨Nat.le_of_ble_eq_true rfl, Nat.le_of_ble_eq_true rfl⟩ hP hD hS hA hE0 ⟨rfl, rfl, rfl, by decide, rfl, rfl, rfl⟩ 0 rfl rfl rfl rfl hl.1 (Nat.le_of_ble_eq_true rfl) rfl dX9_hitBumper_1 ⟨Nat.le_of_ble_eq_true rfl, Nat.le_of_ble_eq_true rfl⟩ (fun o_1 H locs eo_1 hP hD hS => ?_)
  refine lv_aload_n hX hB dX9_hitBumper_4 rfl (lv_at hl 0 rfl) ?_
  refine lv_iload_n hX hB dX9_hitBumper_5 rfl (lv_at hl 1 rfl) ?_
  refine lv_iconst (v := 3) hX hB dX9_hitBumper_6 (by decide) ?_
  refine z_callVi (isC := [0, 1]) (isR := [2, 3]) (isO := [2, 3, 0, 1]) (()) (q_X9_cannotHit3_2 cy h0 h1 h2 h3 h4 h5 h6 h7 h8 h9 o_1.1 v2 v3 v4 v5 v6 v7 v8 v9 v10 v11 g) (fun o_2 => [(h0, .inr (11, [.ref h1, .ref h2, .ref h3, .ref h4, .ref h5, .int o_1.1, .int v2, .int v3, .int v4, .int v5, .ref h6, .int v6, .ref h7, .ref h8, .ref h9, .int v7, .int v8, .int v9, .int v10, .int v11])), (h1, .inl (cy 0, 64, .inl (g))), (h2, .inl (cy 0, 64, .inl (o_1.2))), (h5, .inl (cy 0, 512, .inl (gh)))]) (fun o_2 => 2) (c_X9_cannotHit3_2 l hE D cy h0 h1 h2 h3 h4 h5 h6 h7 h8 h9 o_1.1 v2 v3 v4 v5 v6 v7 v8 v9 v10 v11 g x i hx (by omega) hr) hE C zs_X9_131 ⟨Nat.le_of_ble_eq_true rfl, Nat.le_of_ble_eq_true rfl⟩ hP hD hS hA hE0 ⟨rfl, rfl, rfl, by decide, rfl, rfl, rfl⟩ 0 rfl rfl rfl rfl hl.1 (Nat.le_of_ble_eq_true rfl) rfl dX9_hitBumper_7 ⟨Nat.le_of_ble_eq_true rfl, Nat.le_of_ble_eq_true rfl⟩ (fun o_2 H locs eo_2 hP hD hS => ?_)
  refine lv_istore_n (lv' := [(2, .int 2), (0, .ref h0), (1, .int x)]) hX hB dX9_hitBumper_10 rfl hl (by decide) rfl (fun ls hl => ?_)
  refine lv_iload_n hX hB dX9_hitBumper_11 rfl (lv_at hl 0 rfl) ?_
  refine lv_if_le (tgt := 23) hX hB dX9_hitBumper_12 (by decide) (fun c => absurd c (by decide)) (fun _ => ?_)
  refine lv_aload_n hX hB dX9_hitBumper_15 rfl (lv_at hl 1 rfl) ?_
  refine lv_iload_n hX hB dX9_hitBumper_16 rfl (lv_at hl 0 rfl) ?_
  refine z_callVi (isC := [0]) (isR := [1, 2, 3]) (isO := [3, 0, 1, 2]) (n_X9_fail 2) (q_X9_fail h0 h1 h2 h3 h4 h5 h6 h7 h8 h9 v2 v3 v4 v5 v6 v7 v8 v9 v10 v11) (fun o_3 => [(h0, .inr (11, [.ref h1, .ref h2, .ref h3, .ref h4, .ref h5, .int o_3, .int v2, .int v3, .int v4, .int v5, .ref h6, .int v6, .ref h7, .ref h8, .ref h9, .int v7, .int v8, .int v9, .int v10, .int v11])), (h1, .inl (cy 0, 64, .inl (g))), (h2, .inl (cy 0, 64, .inl (o_1.2))), (h5, .inl (cy 0, 512, .inl (gh)))]) (fun o_3 => 0) (c_X9_fail l hE D cy h0 h1 h2 h3 h4 h5 h6 h7 h8 h9 o_1.1 v2 v3 v4 v5 v6 v7 v8 v9 v10 v11 2 ) hE C zs_X9_87 ⟨Nat.le_of_ble_eq_true rfl, Nat.le_of_ble_eq_true rfl⟩ hP hD hS hA hE0 ⟨rfl, rfl, rfl, by decide, rfl, rfl, rfl⟩ 0 rfl rfl rfl rfl hl.1 (Nat.le_of_ble_eq_true rfl) rfl dX9_hitBumper_17 ⟨Nat.le_of_ble_eq_true rfl, Nat.le_of_ble_eq_true rfl⟩ (fun o_3 H locs eo_3 hP hD hS => ?_)
  refine lv_goto (tgt := 32) hX hB dX9_hitBumper_20 (by decide) ?_
  exact z_iret' (o_3, o_1.2) (w' := q_X9_hitBumper_2 cy h0 h1 h2 h3 h4 h5 h6 h7 h8 h9 v2 v3 v4 v5 v6 v7 v8 v9 v10 v11 g gh) (r0 := (fun (o : Int32 × (Nat → Int32)) => 0)) (by simp only [n_X9_hitBumper_2, ← eo_1, ← eo_3]) C hRT hP hD hS (Nat.le_of_ble_eq_true rfl) (Nat.le_of_ble_eq_true rfl) rfl rfl dX9_hitBumper_32

def n_X9_hitTarget_ok (v2 : Int32) (g : Nat → Int32) (gb : Nat → Int32) (gh : Nat → Int32) (i : Nat) : Int32 × Int32 × Int32 × (Nat → Int32) × (Nat → Int32) × (Nat → Int32) :=
  let o_1 := n_X9_begin g gb
  let o_3 := n_X9_hitsTarget g i
  let o_4 := n_X9_commit v2 o_1.2 gh o_3.1
  (o_4.1, o_1.1, o_4.2.1, o_3.2, o_1.2, o_4.2.2)
def q_X9_hitTarget_ok (cy : Nat → ClassId) (h0 : Nat) (h1 : Nat) (h2 : Nat) (h3 : Nat) (h4 : Nat) (h5 : Nat) (h6 : Nat) (h7 : Nat) (h8 : Nat) (h9 : Nat) (v3 : Int32) (v4 : Int32) (v5 : Int32) (v6 : Int32) (v7 : Int32) (v8 : Int32) (v9 : Int32) (v10 : Int32) (v11 : Int32) (o : Int32 × Int32 × Int32 × (Nat → Int32) × (Nat → Int32) × (Nat → Int32)) : va_W := [(h0, .inr (11, [.ref h1, .ref h2, .ref h3, .ref h4, .ref h5, .int o.2.1, .int o.2.2.1, .int v3, .int v4, .int v5, .ref h6, .int v6, .ref h7, .ref h8, .ref h9, .int v7, .int v8, .int v9, .int v10, .int v11])), (h1, .inl (cy 0, 64, .inl (o.2.2.2.1))), (h2, .inl (cy 0, 64, .inl (o.2.2.2.2.1))), (h5, .inl (cy 0, 512, .inl (o.2.2.2.2.2)))]
set_option maxHeartbeats 4000000 in
set_option maxRecDepth 100000 in
theorem c_X9_hitTarget_ok (l : Launch) {E : zEn} (hE : zEok E) (D : zG) (cy : Nat → ClassId) (h0 h1 h2 h3 h4 h5 h6 h7 h8 h9 : Nat) (v1 : Int32) (v2 : Int32) (v3 : Int32) (v4 : Int32) (v5 : Int32) (v6 : Int32) (v7 : Int32) (v8 : Int32) (v9 : Int32) (v10 : Int32) (v11 : Int32) (g : Nat → Int32) (gb : Nat → Int32) (gh : Nat → Int32) (x : Int32) (i : Nat) (hx : zi x i) (hxb : i ≤ 4) (hr : g 0 = 1) (hc : zle (g 3) 3) (hd : zle v2 8) (sz : Nat) : Met l yX9_hitTarget (zws yX9_hitTarget cX9_hitTarget 3 (some .int)) { frames := 3, cells := 0, slots := 0, locals := 67 } (zPre E D cy [.ref h0, .int x] [(h0, .inr (11, [.ref h1, .ref h2, .ref h3, .ref h4, .ref h5, .int v1, .int v2, .int v3, .int v4, .int v5, .ref h6, .int v6, .ref h7, .ref h8, .ref h9, .int v7, .int v8, .int v9, .int v10, .int v11])), (h1, .inl (cy 0, 64, .inl (g))), (h2, .inl (cy 0, 64, .inl (gb))), (h5, .inl (cy 0, 512, .inl (gh)))] sz) (zQi D ((q_X9_hitTarget_ok cy h0 h1 h2 h3 h4 h5 h6 h7 h8 h9 v3 v4 v5 v6 v7 v8 v9 v10 v11) (n_X9_hitTarget_ok v2 g gb gh i)) (va_A [(h0, .inr (11, [.ref h1, .ref h2, .ref h3, .ref h4, .ref h5, .int v1, .int v2, .int v3, .int v4, .int v5, .ref h6, .int v6, .ref h7, .ref h8, .ref h9, .int v7, .int v8, .int v9, .int v10, .int v11])), (h1, .inl (cy 0, 64, .inl (g))), (h2, .inl (cy 0, 64, .inl (gb))), (h5, .inl (cy 0, 512, .inl (gh)))] sz) ((n_X9_hitTarget_ok v2 g gb gh i).1)) 0 0 (va_A [(h0, .inr (11, [.ref h1, .ref h2, .ref h3, .ref h4, .ref h5, .int v1, .int v2, .int v3, .int v4, .int v5, .ref h6, .int v6, .ref h7, .ref h8, .ref h9, .int v7, .int v8, .int v9, .int v10, .int v11])), (h1, .inl (cy 0, 64, .inl (g))), (h2, .inl (cy 0, 64, .inl (gb))), (h5, .inl (cy 0, 512, .inl (gh)))] sz) := by
  refine z_of (Qc := fun A => zQi D ((q_X9_hitTarget_ok cy h0 h1 h2 h3 h4 h5 h6 h7 h8 h9 v3 v4 v5 v6 v7 v8 v9 v10 v11) (n_X9_hitTarget_ok v2 g gb gh i)) A ((n_X9_hitTarget_ok v2 g gb gh i).1)) (by decide +kernel) (Nat.le_of_ble_eq_true rfl) rfl ?_
  intro pG eN sT mI below meth cO A ls C hRT hnm hA hP hD hS hE0 hl
  have hX := C.x
  have hB := C.b
  have hc_ := hc.2
  have hd_ := hd.2
  refine lv_aload_n hX hB dX9_hitTarget_0 rfl (lv_at hl 0 rfl) ?_
  refine z_callVv (isC := [0, 1, 2]) (isR := [3]) (isO := [1, 2, 3, 0]) (n_X9_begin g gb) (q_X9_begin cy h0 h1 h2 h3 h4 h5 h6 h7 h8 h9 v2 v3 v4 v5 v6 v7 v8 v9 v10 v11 g) (fun o_1 => [(h0, .inr (11, [.ref h1, .ref h2, .ref h3, .ref h4, .ref h5, .int o_1.1, .int v2, .int v3, .int v4, .int v5, .ref h6, .int v6, .ref h7, .ref h8, .ref h9, .int v7, .int v8, .int v9, .int v10, .int v11])), (h1, .inl (cy 0, 64, .inl (g))), (h2, .inl (cy 0, 64, .inl (o_1.2))), (h5, .inl (cy 0, 512, .inl (gh)))]) (c_X9_begin l hE D cy h0 h1 h2 h3 h4 h5 h6 h7 h8 h9 v1 v2 v3 v4 v5 v6 v7 v8 v9 v10 v11 g gb ) hE C zs_X9_80 ⟨Nat.le_of_ble_eq_true rfl, Nat.le_of_ble_eq_true rfl⟩ hP hD hS hA hE0 ⟨rfl, rfl, rfl, by decide, rfl, rfl, rfl⟩ 0 rfl rfl rfl rfl hl.1 (Nat.le_of_ble_eq_true rfl) rfl dX9_hitTarget_1 ⟨Nat.le_of_ble_eq_true rfl, Nat.le_of_ble_eq_true rfl⟩ (fun o_1 H locs eo_1 hP hD hS => ?_)
  refine lv_aload_n hX hB dX9_hitTarget_4 rfl (lv_at hl 0 rfl) ?_
  refine lv_iload_n hX hB dX9_hitTarget_5 rfl (lv_at hl 1 rfl) ?_
  refine lv_iconst (v := 5) hX hB dX9_hitTarget_6 (by decide) ?_
  refine z_callVi (isC := [0, 1]) (isR := [2, 3]) (isO := [2, 3, 0, 1]) (()) (q_X9_cannotHit5_ok cy h0 h1 h2 h3 h4 h5 h6 h7 h8 h9 o_1.1 v2 v3 v4 v5 v6 v7 v8 v9 v10 v11 g) (fun o_2 => [(h0, .inr (11, [.ref h1, .ref h2, .ref h3, .ref h4, .ref h5, .int o_1.1, .int v2, .int v3, .int v4, .int v5, .ref h6, .int v6, .ref h7, .ref h8, .ref h9, .int v7, .int v8, .int v9, .int v10, .int v11])), (h1, .inl (cy 0, 64, .inl (g))), (h2, .inl (cy 0, 64, .inl (o_1.2))), (h5, .inl (cy 0, 512, .inl (gh)))]) (fun o_2 => 0) (c_X9_cannotHit5_ok l hE D cy h0 h1 h2 h3 h4 h5 h6 h7 h8 h9 o_1.1 v2 v3 v4 v5 v6 v7 v8 v9 v10 v11 g x i hx (by omega) hr) hE C zs_X9_131 ⟨Nat.le_of_ble_eq_true rfl, Nat.le_of_ble_eq_true rfl⟩ hP hD hS hA hE0 ⟨rfl, rfl, rfl, by decide, rfl, rfl, rfl⟩ 0 rfl rfl rfl rfl hl.1 (Nat.le_of_ble_eq_true rfl) rfl dX9_hitTarget_7 ⟨Nat.le_of_ble_eq_true rfl, Nat.le_of_ble_eq_true rfl⟩ (fun o_2 H locs eo_2 hP hD hS => ?_)
  refine lv_istore_n (lv' := [(2, .int 0), (0, .ref h0), (1, .int x)]) hX hB dX9_hitTarget_10 rfl hl (by decide) rfl (fun ls hl => ?_)
  refine lv_iload_n hX hB dX9_hitTarget_11 rfl (lv_at hl 0 rfl) ?_
  refine lv_if_le (tgt := 23) hX hB dX9_hitTarget_12 (by decide) (fun _ => ?_) (fun c => absurd (by decide) c)
  refine lv_aload_n hX hB dX9_hitTarget_23 rfl (lv_at hl 1 rfl) ?_
  refine lv_aload_n hX hB dX9_hitTarget_24 rfl (lv_at hl 1 rfl) ?_
  refine lv_iload_n hX hB dX9_hitTarget_25 rfl (lv_at hl 2 rfl) ?_
  refine z_callVi (isC := [0, 1]) (isR := [2, 3]) (isO := [2, 3, 0, 1]) (n_X9_hitsTarget g i) (q_X9_hitsTarget cy h0 h1 h2 h3 h4 h5 h6 h7 h8 h9 o_1.1 v2 v3 v4 v5 v6 v7 v8 v9 v10 v11) (fun o_3 => [(h0, .inr (11, [.ref h1, .ref h2, .ref h3, .ref h4, .ref h5, .int o_1.1, .int v2, .int v3, .int v4, .int v5, .ref h6, .int v6, .ref h7, .ref h8, .ref h9, .int v7, .int v8, .int v9, .int v10, .int v11])), (h1, .inl (cy 0, 64, .inl (o_3.2))), (h2, .inl (cy 0, 64, .inl (o_1.2))), (h5, .inl (cy 0, 512, .inl (gh)))]) (fun o_3 => o_3.1) (c_X9_hitsTarget l hE D cy h0 h1 h2 h3 h4 h5 h6 h7 h8 h9 o_1.1 v2 v3 v4 v5 v6 v7 v8 v9 v10 v11 g x i hx (by omega) (zle_of (zi_tr rfl hc.1) (by omega) (by decide))) hE C zs_X9_140 ⟨Nat.le_of_ble_eq_true rfl, Nat.le_of_ble_eq_true rfl⟩ hP hD hS hA hE0 ⟨rfl, rfl, rfl, by decide, rfl, rfl, rfl⟩ 0 rfl rfl rfl rfl hl.1 (Nat.le_of_ble_eq_true rfl) rfl dX9_hitTarget_26 ⟨Nat.le_of_ble_eq_true rfl, Nat.le_of_ble_eq_true rfl⟩ (fun o_3 H locs eo_3 hP hD hS => ?_)
  refine z_callVi (isC := [0, 2, 3]) (isR := [1]) (isO := [1, 0, 2, 3]) (n_X9_commit v2 o_1.2 gh o_3.1) (q_X9_commit cy h0 h1 h2 h3 h4 h5 h6 h7 h8 h9 o_1.1 v3 v4 v5 v6 v7 v8 v9 v10 v11 o_1.2) (fun o_4 => [(h0, .inr (11, [.ref h1, .ref h2, .ref h3, .ref h4, .ref h5, .int o_1.1, .int o_4.2.1, .int v3, .int v4, .int v5, .ref h6, .int v6, .ref h7, .ref h8, .ref h9, .int v7, .int v8, .int v9, .int v10, .int v11])), (h1, .inl (cy 0, 64, .inl (o_3.2))), (h2, .inl (cy 0, 64, .inl (o_1.2))), (h5, .inl (cy 0, 512, .inl (o_4.2.2)))]) (fun o_4 => o_4.1) (c_X9_commit l hE D cy h0 h1 h2 h3 h4 h5 h6 h7 h8 h9 o_1.1 v2 v3 v4 v5 v6 v7 v8 v9 v10 v11 o_1.2 gh o_3.1 (zle_of hd.1 (by omega) (by decide))) hE C zs_X9_94 ⟨Nat.le_of_ble_eq_true rfl, Nat.le_of_ble_eq_true rfl⟩ hP hD hS hA hE0 ⟨rfl, rfl, rfl, by decide, rfl, rfl, rfl⟩ 0 rfl rfl rfl rfl hl.1 (Nat.le_of_ble_eq_true rfl) rfl dX9_hitTarget_29 ⟨Nat.le_of_ble_eq_true rfl, Nat.le_of_ble_eq_true rfl⟩ (fun o_4 H locs eo_4 hP hD hS => ?_)
  exact z_iret' (o_4.1, o_1.1, o_4.2.1, o_3.2, o_1.2, o_4.2.2) (w' := q_X9_hitTarget_ok cy h0 h1 h2 h3 h4 h5 h6 h7 h8 h9 v3 v4 v5 v6 v7 v8 v9 v10 v11) (r0 := (fun (o : Int32 × Int32 × Int32 × (Nat → Int32) × (Nat → Int32) × (Nat → Int32)) => o.1)) (by simp only [n_X9_hitTarget_ok, ← eo_1, ← eo_3, ← eo_4]) C hRT hP hD hS (Nat.le_of_ble_eq_true rfl) (Nat.le_of_ble_eq_true rfl) rfl rfl dX9_hitTarget_32

def n_X9_hitTarget_1 (g : Nat → Int32) (gb : Nat → Int32) : Int32 × (Nat → Int32) :=
  let o_1 := n_X9_begin g gb
  let o_3 := n_X9_fail 1
  (o_3, o_1.2)
def q_X9_hitTarget_1 (cy : Nat → ClassId) (h0 : Nat) (h1 : Nat) (h2 : Nat) (h3 : Nat) (h4 : Nat) (h5 : Nat) (h6 : Nat) (h7 : Nat) (h8 : Nat) (h9 : Nat) (v2 : Int32) (v3 : Int32) (v4 : Int32) (v5 : Int32) (v6 : Int32) (v7 : Int32) (v8 : Int32) (v9 : Int32) (v10 : Int32) (v11 : Int32) (g : Nat → Int32) (gh : Nat → Int32) (o : Int32 × (Nat → Int32)) : va_W := [(h0, .inr (11, [.ref h1, .ref h2, .ref h3, .ref h4, .ref h5, .int o.1, .int v2, .int v3, .int v4, .int v5, .ref h6, .int v6, .ref h7, .ref h8, .ref h9, .int v7, .int v8, .int v9, .int v10, .int v11])), (h1, .inl (cy 0, 64, .inl (g))), (h2, .inl (cy 0, 64, .inl (o.2))), (h5, .inl (cy 0, 512, .inl (gh)))]
set_option maxHeartbeats 4000000 in
set_option maxRecDepth 100000 in
theorem c_X9_hitTarget_1 (l : Launch) {E : zEn} (hE : zEok E) (D : zG) (cy : Nat → ClassId) (h0 h1 h2 h3 h4 h5 h6 h7 h8 h9 : Nat) (v1 : Int32) (v2 : Int32) (v3 : Int32) (v4 : Int32) (v5 : Int32) (v6 : Int32) (v7 : Int32) (v8 : Int32) (v9 : Int32) (v10 : Int32) (v11 : Int32) (g : Nat → Int32) (gb : Nat → Int32) (gh : Nat → Int32) (x : Int32) (hin : n_X9_in x 0 4 = 0) (hd : zle v2 8) (sz : Nat) : Met l yX9_hitTarget (zws yX9_hitTarget cX9_hitTarget 3 (some .int)) { frames := 2, cells := 0, slots := 0, locals := 44 } (zPre E D cy [.ref h0, .int x] [(h0, .inr (11, [.ref h1, .ref h2, .ref h3, .ref h4, .ref h5, .int v1, .int v2, .int v3, .int v4, .int v5, .ref h6, .int v6, .ref h7, .ref h8, .ref h9, .int v7, .int v8, .int v9, .int v10, .int v11])), (h1, .inl (cy 0, 64, .inl (g))), (h2, .inl (cy 0, 64, .inl (gb))), (h5, .inl (cy 0, 512, .inl (gh)))] sz) (zQi D ((q_X9_hitTarget_1 cy h0 h1 h2 h3 h4 h5 h6 h7 h8 h9 v2 v3 v4 v5 v6 v7 v8 v9 v10 v11 g gh) (n_X9_hitTarget_1 g gb)) (va_A [(h0, .inr (11, [.ref h1, .ref h2, .ref h3, .ref h4, .ref h5, .int v1, .int v2, .int v3, .int v4, .int v5, .ref h6, .int v6, .ref h7, .ref h8, .ref h9, .int v7, .int v8, .int v9, .int v10, .int v11])), (h1, .inl (cy 0, 64, .inl (g))), (h2, .inl (cy 0, 64, .inl (gb))), (h5, .inl (cy 0, 512, .inl (gh)))] sz) (0)) 0 0 (va_A [(h0, .inr (11, [.ref h1, .ref h2, .ref h3, .ref h4, .ref h5, .int v1, .int v2, .int v3, .int v4, .int v5, .ref h6, .int v6, .ref h7, .ref h8, .ref h9, .int v7, .int v8, .int v9, .int v10, .int v11])), (h1, .inl (cy 0, 64, .inl (g))), (h2, .inl (cy 0, 64, .inl (gb))), (h5, .inl (cy 0, 512, .inl (gh)))] sz) := by
  refine z_of (Qc := fun A => zQi D ((q_X9_hitTarget_1 cy h0 h1 h2 h3 h4 h5 h6 h7 h8 h9 v2 v3 v4 v5 v6 v7 v8 v9 v10 v11 g gh) (n_X9_hitTarget_1 g gb)) A (0)) (by decide +kernel) (Nat.le_of_ble_eq_true rfl) rfl ?_
  intro pG eN sT mI below meth cO A ls C hRT hnm hA hP hD hS hE0 hl
  have hX := C.x
  have hB := C.b
  have hd_ := hd.2
  refine lv_aload_n hX hB dX9_hitTarget_0 rfl (lv_at hl 0 rfl) ?_
  refine z_callVv (isC := [0, 1, 2]) (isR := [3]) (isO := [1, 2, 3, 0]) (n_X9_begin g gb) (q_X9_begin cy h0 h1 h2 h3 h4 h5 h6 h7 h8 h9 v2 v3 v4 v5 v6 v7 v8 v9 v10 v11 g) (fun o_1 => [(h0, .inr (11, [.ref h1, .ref h2, .ref h3, .ref h4, .ref h5, .int o_1.1, .int v2, .int v3, .int v4, .int v5, .ref h6, .int v6, .ref h7, .ref h8, .ref h9, .int v7, .int v8, .int v9, .int v10, .int v11])), (h1, .inl (cy 0, 64, .inl (g))), (h2, .inl (cy 0, 64, .inl (o_1.2))), (h5, .inl (cy 0, 512, .inl (gh)))]) (c_X9_begin l hE D cy h0 h1 h2 h3 h4 h5 h6 h7 h8 h9 v1 v2 v3 v4 v5 v6 v7 v8 v9 v10 v11 g gb ) hE C zs_X9_80 ⟨Nat.le_of_ble_eq_true rfl, Nat.le_of_ble_eq_true rfl⟩ hP hD hS hA hE0 ⟨rfl, rfl, rfl, by decide, rfl, rfl, rfl⟩ 0 rfl rfl rfl rfl hl.1 (Nat.le_of_ble_eq_true rfl) rfl dX9_hitTarget_1 ⟨Nat.le_of_ble_eq_true rfl, Nat.le_of_ble_eq_true rfl⟩ (fun o_1 H locs eo_1 hP hD hS => ?_)
  refine lv_aload_n hX hB dX9_hitTarget_4 rfl (lv_at hl 0 rfl) ?_
  refine lv_iload_n hX hB dX9_hitTarget_5 rfl (lv_at hl 1 rfl) ?_
  refine lv_iconst (v := 5) hX hB dX9_hitTarget_6 (by decide) ?_
  refine z_callVi (isC := [0, 1]) (isR := [2, 3]) (isO := [2, 3, 0, 1]) (()) (q_X9_cannotHit5_1 cy h0 h1 h2 h3 h4 h5 h6 h7 h8 h9 o_1.1 v2 v3 v4 v5 v6 v7 v8 v9 v10 v11 g) (fun o_2 => [(h0, .inr (11, [.ref h1, .ref h2, .ref h3, .ref h4, .ref h5, .int o_1.1, .int v2, .int v3, .int v4, .int v5, .ref h6, .int v6, .ref h7, .ref h8, .ref h9, .int v7, .int v8, .int v9, .int v10, .int v11])), (h1, .inl (cy 0, 64, .inl (g))), (h2, .inl (cy 0, 64, .inl (o_1.2))), (h5, .inl (cy 0, 512, .inl (gh)))]) (fun o_2 => 1) (c_X9_cannotHit5_1 l hE D cy h0 h1 h2 h3 h4 h5 h6 h7 h8 h9 o_1.1 v2 v3 v4 v5 v6 v7 v8 v9 v10 v11 g x hin) hE C zs_X9_131 ⟨Nat.le_of_ble_eq_true rfl, Nat.le_of_ble_eq_true rfl⟩ hP hD hS hA hE0 ⟨rfl, rfl, rfl, by decide, rfl, rfl, rfl⟩ 0 rfl rfl rfl rfl hl.1 (Nat.le_of_ble_eq_true rfl) rfl dX9_hitTarget_7 ⟨Nat.le_of_ble_eq_true rfl, Nat.le_of_ble_eq_true rfl⟩ (fun o_2 H locs eo_2 hP hD hS => ?_)
  refine lv_istore_n (lv' := [(2, .int 1), (0, .ref h0), (1, .int x)]) hX hB dX9_hitTarget_10 rfl hl (by decide) rfl (fun ls hl => ?_)
  refine lv_iload_n hX hB dX9_hitTarget_11 rfl (lv_at hl 0 rfl) ?_
  refine lv_if_le (tgt := 23) hX hB dX9_hitTarget_12 (by decide) (fun c => absurd c (by decide)) (fun _ => ?_)
  refine lv_aload_n hX hB dX9_hitTarget_15 rfl (lv_at hl 1 rfl) ?_
  refine lv_iload_n hX hB dX9_hitTarget_16 rfl (lv_at hl 0 rfl) ?_
  refine z_callVi (isC := [0]) (isR := [1, 2, 3]) (isO := [3, 0, 1, 2]) (n_X9_fail 1) (q_X9_fail h0 h1 h2 h3 h4 h5 h6 h7 h8 h9 v2 v3 v4 v5 v6 v7 v8 v9 v10 v11) (fun o_3 => [(h0, .inr (11, [.ref h1, .ref h2, .ref h3, .ref h4, .ref h5, .int o_3, .int v2, .int v3, .int v4, .int v5, .ref h6, .int v6, .ref h7, .ref h8, .ref h9, .int v7, .int v8, .int v9, .int v10, .int v11])), (h1, .inl (cy 0, 64, .inl (g))), (h2, .inl (cy 0, 64, .inl (o_1.2))), (h5, .inl (cy 0, 512, .inl (gh)))]) (fun o_3 => 0) (c_X9_fail l hE D cy h0 h1 h2 h3 h4 h5 h6 h7 h8 h9 o_1.1 v2 v3 v4 v5 v6 v7 v8 v9 v10 v11 1 ) hE C zs_X9_87 ⟨Nat.le_of_ble_eq_true rfl, Nat.le_of_ble_eq_true rfl⟩ hP hD hS hA hE0 ⟨rfl, rfl, rfl, by decide, rfl, rfl, rfl⟩ 0 rfl rfl rfl rfl hl.1 (Nat.le_of_ble_eq_true rfl) rfl dX9_hitTarget_17 ⟨Nat.le_of_ble_eq_true rfl, Nat.le_of_ble_eq_true rfl⟩ (fun o_3 H locs eo_3 hP hD hS => ?_)
  refine lv_goto (tgt := 32) hX hB dX9_hitTarget_20 (by decide) ?_
  exact z_iret' (o_3, o_1.2) (w' := q_X9_hitTarget_1 cy h0 h1 h2 h3 h4 h5 h6 h7 h8 h9 v2 v3 v4 v5 v6 v7 v8 v9 v10 v11 g gh) (r0 := (fun (o : Int32 × (Nat → Int32)) => 0)) (by simp only [n_X9_hitTarget_1, ← eo_1, ← eo_3]) C hRT hP hD hS (Nat.le_of_ble_eq_true rfl) (Nat.le_of_ble_eq_true rfl) rfl rfl dX9_hitTarget_32

def n_X9_hitTarget_2 (g : Nat → Int32) (gb : Nat → Int32) : Int32 × (Nat → Int32) :=
  let o_1 := n_X9_begin g gb
  let o_3 := n_X9_fail 2
  (o_3, o_1.2)
def q_X9_hitTarget_2 (cy : Nat → ClassId) (h0 : Nat) (h1 : Nat) (h2 : Nat) (h3 : Nat) (h4 : Nat) (h5 : Nat) (h6 : Nat) (h7 : Nat) (h8 : Nat) (h9 : Nat) (v2 : Int32) (v3 : Int32) (v4 : Int32) (v5 : Int32) (v6 : Int32) (v7 : Int32) (v8 : Int32) (v9 : Int32) (v10 : Int32) (v11 : Int32) (g : Nat → Int32) (gh : Nat → Int32) (o : Int32 × (Nat → Int32)) : va_W := [(h0, .inr (11, [.ref h1, .ref h2, .ref h3, .ref h4, .ref h5, .int o.1, .int v2, .int v3, .int v4, .int v5, .ref h6, .int v6, .ref h7, .ref h8, .ref h9, .int v7, .int v8, .int v9, .int v10, .int v11])), (h1, .inl (cy 0, 64, .inl (g))), (h2, .inl (cy 0, 64, .inl (o.2))), (h5, .inl (cy 0, 512, .inl (gh)))]
set_option maxHeartbeats 4000000 in
set_option maxRecDepth 100000 in
theorem c_X9_hitTarget_2 (l : Launch) {E : zEn} (hE : zEok E) (D : zG) (cy : Nat → ClassId) (h0 h1 h2 h3 h4 h5 h6 h7 h8 h9 : Nat) (v1 : Int32) (v2 : Int32) (v3 : Int32) (v4 : Int32) (v5 : Int32) (v6 : Int32) (v7 : Int32) (v8 : Int32) (v9 : Int32) (v10 : Int32) (v11 : Int32) (g : Nat → Int32) (gb : Nat → Int32) (gh : Nat → Int32) (x : Int32) (i : Nat) (hx : zi x i) (hxb : i ≤ 4) (hr : ¬ g 0 = 1) (hd : zle v2 8) (sz : Nat) : Met l yX9_hitTarget (zws yX9_hitTarget cX9_hitTarget 3 (some .int)) { frames := 2, cells := 0, slots := 0, locals := 44 } (zPre E D cy [.ref h0, .int x] [(h0, .inr (11, [.ref h1, .ref h2, .ref h3, .ref h4, .ref h5, .int v1, .int v2, .int v3, .int v4, .int v5, .ref h6, .int v6, .ref h7, .ref h8, .ref h9, .int v7, .int v8, .int v9, .int v10, .int v11])), (h1, .inl (cy 0, 64, .inl (g))), (h2, .inl (cy 0, 64, .inl (gb))), (h5, .inl (cy 0, 512, .inl (gh)))] sz) (zQi D ((q_X9_hitTarget_2 cy h0 h1 h2 h3 h4 h5 h6 h7 h8 h9 v2 v3 v4 v5 v6 v7 v8 v9 v10 v11 g gh) (n_X9_hitTarget_2 g gb)) (va_A [(h0, .inr (11, [.ref h1, .ref h2, .ref h3, .ref h4, .ref h5, .int v1, .int v2, .int v3, .int v4, .int v5, .ref h6, .int v6, .ref h7, .ref h8, .ref h9, .int v7, .int v8, .int v9, .int v10, .int v11])), (h1, .inl (cy 0, 64, .inl (g))), (h2, .inl (cy 0, 64, .inl (gb))), (h5, .inl (cy 0, 512, .inl (gh)))] sz) (0)) 0 0 (va_A [(h0, .inr (11, [.ref h1, .ref h2, .ref h3, .ref h4, .ref h5, .int v1, .int v2, .int v3, .int v4, .int v5, .ref h6, .int v6, .ref h7, .ref h8, .ref h9, .int v7, .int v8, .int v9, .int v10, .int v11])), (h1, .inl (cy 0, 64, .inl (g))), (h2, .inl (cy 0, 64, .inl (gb))), (h5, .inl (cy 0, 512, .inl (gh)))] sz) := by
  refine z_of (Qc := fun A => zQi D ((q_X9_hitTarget_2 cy h0 h1 h2 h3 h4 h5 h6 h7 h8 h9 v2 v3 v4 v5 v6 v7 v8 v9 v10 v11 g gh) (n_X9_hitTarget_2 g gb)) A (0)) (by decide +kernel) (Nat.le_of_ble_eq_true rfl) rfl ?_
  intro pG eN sT mI below meth cO A ls C hRT hnm hA hP hD hS hE0 hl
  have hX := C.x
  have hB := C.b
  have hd_ := hd.2
  refine lv_aload_n hX hB dX9_hitTarget_0 rfl (lv_at hl 0 rfl) ?_
  refine z_callVv (isC := [0, 1, 2]) (isR := [3]) (isO := [1, 2, 3, 0]) (n_X9_begin g gb) (q_X9_begin cy h0 h1 h2 h3 h4 h5 h6 h7 h8 h9 v2 v3 v4 v5 v6 v7 v8 v9 v10 v11 g) (fun o_1 => [(h0, .inr (11, [.ref h1, .ref h2, .ref h3, .ref h4, .ref h5, .int o_1.1, .int v2, .int v3, .int v4, .int v5, .ref h6, .int v6, .ref h7, .ref h8, .ref h9, .int v7, .int v8, .int v9, .int v10, .int v11])), (h1, .inl (cy 0, 64, .inl (g))), (h2, .inl (cy 0, 64, .inl (o_1.2))), (h5, .inl (cy 0, 512, .inl (gh)))]) (c_X9_begin l hE D cy h0 h1 h2 h3 h4 h5 h6 h7 h8 h9 v1 v2 v3 v4 v5 v6 v7 v8 v9 v10 v11 g gb ) hE C zs_X9_80 ⟨Nat.le_of_ble_eq_true rfl, Nat.le_of_ble_eq_true rfl⟩ hP hD hS hA hE0 ⟨rfl, rfl, rfl, by decide, rfl, rfl, rfl⟩ 0 rfl rfl rfl rfl hl.1 (Nat.le_of_ble_eq_true rfl) rfl dX9_hitTarget_1 ⟨Nat.le_of_ble_eq_true rfl, Nat.le_of_ble_eq_true rfl⟩ (fun o_1 H locs eo_1 hP hD hS => ?_)
  refine lv_aload_n hX hB dX9_hitTarget_4 rfl (lv_at hl 0 rfl) ?_
  refine lv_iload_n hX hB dX9_hitTarget_5 rfl (lv_at hl 1 rfl) ?_
  refine lv_iconst (v := 5) hX hB dX9_hitTarget_6 (by decide) ?_
  refine z_callVi (isC := [0, 1]) (isR := [2, 3]) (isO := [2, 3, 0, 1]) (()) (q_X9_cannotHit5_2 cy h0 h1 h2 h3 h4 h5 h6 h7 h8 h9 o_1.1 v2 v3 v4 v5 v6 v7 v8 v9 v10 v11 g) (fun o_2 => [(h0, .inr (11, [.ref h1, .ref h2, .ref h3, .ref h4, .ref h5, .int o_1.1, .int v2, .int v3, .int v4, .int v5, .ref h6, .int v6, .ref h7, .ref h8, .ref h9, .int v7, .int v8, .int v9, .int v10, .int v11])), (h1, .inl (cy 0, 64, .inl (g))), (h2, .inl (cy 0, 64, .inl (o_1.2))), (h5, .inl (cy 0, 512, .inl (gh)))]) (fun o_2 => 2) (c_X9_cannotHit5_2 l hE D cy h0 h1 h2 h3 h4 h5 h6 h7 h8 h9 o_1.1 v2 v3 v4 v5 v6 v7 v8 v9 v10 v11 g x i hx (by omega) hr) hE C zs_X9_131 ⟨Nat.le_of_ble_eq_true rfl, Nat.le_of_ble_eq_true rfl⟩ hP hD hS hA hE0 ⟨rfl, rfl, rfl, by decide, rfl, rfl, rfl⟩ 0 rfl rfl rfl rfl hl.1 (Nat.le_of_ble_eq_true rfl) rfl dX9_hitTarget_7 ⟨Nat.le_of_ble_eq_true rfl, Nat.le_of_ble_eq_true rfl⟩ (fun o_2 H locs eo_2 hP hD hS => ?_)
  refine lv_istore_n (lv' := [(2, .int 2), (0, .ref h0), (1, .int x)]) hX hB dX9_hitTarget_10 rfl hl (by decide) rfl (fun ls hl => ?_)
  refine lv_iload_n hX hB dX9_hitTarget_11 rfl (lv_at hl 0 rfl) ?_
  refine lv_if_le (tgt := 23) hX hB dX9_hitTarget_12 (by decide) (fun c => absurd c (by decide)) (fun _ => ?_)
  refine lv_aload_n hX hB dX9_hitTarget_15 rfl (lv_at hl 1 rfl) ?_
  refine lv_iload_n hX hB dX9_hitTarget_16 rfl (lv_at hl 0 rfl) ?_
  refine z_callVi (isC := [0]) (isR := [1, 2, 3]) (isO := [3, 0, 1, 2]) (n_X9_fail 2) (q_X9_fail h0 h1 h2 h3 h4 h5 h6 h7 h8 h9 v2 v3 v4 v5 v6 v7 v8 v9 v10 v11) (fun o_3 => [(h0, .inr (11, [.ref h1, .ref h2, .ref h3, .ref h4, .ref h5, .int o_3, .int v2, .int v3, .int v4, .int v5, .ref h6, .int v6, .ref h7, .ref h8, .ref h9, .int v7, .int v8, .int v9, .int v10, .int v11])), (h1, .inl (cy 0, 64, .inl (g))), (h2, .inl (cy 0, 64, .inl (o_1.2))), (h5, .inl (cy 0, 512, .inl (gh)))]) (fun o_3 => 0) (c_X9_fail l hE D cy h0 h1 h2 h3 h4 h5 h6 h7 h8 h9 o_1.1 v2 v3 v4 v5 v6 v7 v8 v9 v10 v11 2 ) hE C zs_X9_87 ⟨Nat.le_of_ble_eq_true rfl, Nat.le_of_ble_eq_true rfl⟩ hP hD hS hA hE0 ⟨rfl, rfl, rfl, by decide, rfl, rfl, rfl⟩ 0 rfl rfl rfl rfl hl.1 (Nat.le_of_ble_eq_true rfl) rfl dX9_hitTarget_17 ⟨Nat.le_of_ble_eq_true rfl, Nat.le_of_ble_eq_true rfl⟩ (fun o_3 H locs eo_3 hP hD hS => ?_)
  refine lv_goto (tgt := 32) hX hB dX9_hitTarget_20 (by decide) ?_
  exact z_iret' (o_3, o_1.2) (w' := q_X9_hitTarget_2 cy h0 h1 h2 h3 h4 h5 h6 h7 h8 h9 v2 v3 v4 v5 v6 v7 v8 v9 v10 v11 g gh) (r0 := (fun (o : Int32 × (Nat → Int32)) => 0)) (by simp only [n_X9_hitTarget_2, ← eo_1, ← eo_3]) C hRT hP hD hS (Nat.le_of_ble_eq_true rfl) (Nat.le_of_ble_eq_true rfl) rfl rfl dX9_hitTarget_32

def n_X9_nudge_ok (v2 : Int32) (g : Nat → Int32) (gb : Nat → Int32) (gh : Nat → Int32) (x : Int32) : Int32 × Int32 × Int32 × (Nat → Int32) × (Nat → Int32) × (Nat → Int32) :=
  let o_1 := n_X9_begin g gb
  let o_3 := n_X9_nudges g x
  let o_4 := n_X9_commit v2 o_1.2 gh o_3.1
  (o_4.1, o_1.1, o_4.2.1, o_3.2, o_1.2, o_4.2.2)
def q_X9_nudge_ok (cy : Nat → ClassId) (h0 : Nat) (h1 : Nat) (h2 : Nat) (h3 : Nat) (h4 : Nat) (h5 : Nat) (h6 : Nat) (h7 : Nat) (h8 : Nat) (h9 : Nat) (v3 : Int32) (v4 : Int32) (v5 : Int32) (v6 : Int32) (v7 : Int32) (v8 : Int32) (v9 : Int32) (v10 : Int32) (v11 : Int32) (o : Int32 × Int32 × Int32 × (Nat → Int32) × (Nat → Int32) × (Nat → Int32)) : va_W := [(h0, .inr (11, [.ref h1, .ref h2, .ref h3, .ref h4, .ref h5, .int o.2.1, .int o.2.2.1, .int v3, .int v4, .int v5, .ref h6, .int v6, .ref h7, .ref h8, .ref h9, .int v7, .int v8, .int v9, .int v10, .int v11])), (h1, .inl (cy 0, 64, .inl (o.2.2.2.1))), (h2, .inl (cy 0, 64, .inl (o.2.2.2.2.1))), (h5, .inl (cy 0, 512, .inl (o.2.2.2.2.2)))]
set_option maxHeartbeats 4000000 in
set_option maxRecDepth 100000 in
theorem c_X9_nudge_ok (l : Launch) {E : zEn} (hE : zEok E) (D : zG) (cy : Nat → ClassId) (h0 h1 h2 h3 h4 h5 h6 h7 h8 h9 : Nat) (v1 : Int32) (v2 : Int32) (v3 : Int32) (v4 : Int32) (v5 : Int32) (v6 : Int32) (v7 : Int32) (v8 : Int32) (v9 : Int32) (v10 : Int32) (v11 : Int32) (g : Nat → Int32) (gb : Nat → Int32) (gh : Nat → Int32) (x : Int32) (i : Nat) (hx : zi x i) (hxb : i ≤ 3) (hxa : 1 ≤ i) (hr : g 0 = 1) (hd : zle v2 8) (sz : Nat) : Met l yX9_nudge (zws yX9_nudge cX9_nudge 3 (some .int)) { frames := 2, cells := 0, slots := 0, locals := 46 } (zPre E D cy [.ref h0, .int x] [(h0, .inr (11, [.ref h1, .ref h2, .ref h3, .ref h4, .ref h5, .int v1, .int v2, .int v3, .int v4, .int v5, .ref h6, .int v6, .ref h7, .ref h8, .ref h9, .int v7, .int v8, .int v9, .int v10, .int v11])), (h1, .inl (cy 0, 64, .inl (g))), (h2, .inl (cy 0, 64, .inl (gb))), (h5, .inl (cy 0, 512, .inl (gh)))] sz) (zQi D ((q_X9_nudge_ok cy h0 h1 h2 h3 h4 h5 h6 h7 h8 h9 v3 v4 v5 v6 v7 v8 v9 v10 v11) (n_X9_nudge_ok v2 g gb gh x)) (va_A [(h0, .inr (11, [.ref h1, .ref h2, .ref h3, .ref h4, .ref h5, .int v1, .int v2, .int v3, .int v4, .int v5, .ref h6, .int v6, .ref h7, .ref h8, .ref h9, .int v7, .int v8, .int v9, .int v10, .int v11])), (h1, .inl (cy 0, 64, .inl (g))), (h2, .inl (cy 0, 64, .inl (gb))), (h5, .inl (cy 0, 512, .inl (gh)))] sz) ((n_X9_nudge_ok v2 g gb gh x).1)) 0 0 (va_A [(h0, .inr (11, [.ref h1, .ref h2, .ref h3, .ref h4, .ref h5, .int v1, .int v2, .int v3, .int v4, .int v5, .ref h6, .int v6, .ref h7, .ref h8, .ref h9, .int v7, .int v8, .int v9, .int v10, .int v11])), (h1, .inl (cy 0, 64, .inl (g))), (h2, .inl (cy 0, 64, .inl (gb))), (h5, .inl (cy 0, 512, .inl (gh)))] sz) := by
  refine z_of (Qc := fun A => zQi D ((q_X9_nudge_ok cy h0 h1 h2 h3 h4 h5 h6 h7 h8 h9 v3 v4 v5 v6 v7 v8 v9 v10 v11) (n_X9_nudge_ok v2 g gb gh x)) A ((n_X9_nudge_ok v2 g gb gh x).1)) (by decide +kernel) (Nat.le_of_ble_eq_true rfl) rfl ?_
  intro pG eN sT mI below meth cO A ls C hRT hnm hA hP hD hS hE0 hl
  have hX := C.x
  have hB := C.b
  have hd_ := hd.2
  refine lv_aload_n hX hB dX9_nudge_0 rfl (lv_at hl 0 rfl) ?_
  refine z_callVv (isC := [0, 1, 2]) (isR := [3]) (isO := [1, 2, 3, 0]) (n_X9_begin g gb) (q_X9_begin cy h0 h1 h2 h3 h4 h5 h6 h7 h8 h9 v2 v3 v4 v5 v6 v7 v8 v9 v10 v11 g) (fun o_1 => [(h0, .inr (11, [.ref h1, .ref h2, .ref h3, .ref h4, .ref h5, .int o_1.1, .int v2, .int v3, .int v4, .int v5, .ref h6, .int v6, .ref h7, .ref h8, .ref h9, .int v7, .int v8, .int v9, .int v10, .int v11])), (h1, .inl (cy 0, 64, .inl (g))), (h2, .inl (cy 0, 64, .inl (o_1.2))), (h5, .inl (cy 0, 512, .inl (gh)))]) (c_X9_begin l hE D cy h0 h1 h2 h3 h4 h5 h6 h7 h8 h9 v1 v2 v3 v4 v5 v6 v7 v8 v9 v10 v11 g gb ) hE C zs_X9_80 ⟨Nat.le_of_ble_eq_true rfl, Nat.le_of_ble_eq_true rfl⟩ hP hD hS hA hE0 ⟨rfl, rfl, rfl, by decide, rfl, rfl, rfl⟩ 0 rfl rfl rfl rfl hl.1 (Nat.le_of_ble_eq_true rfl) rfl dX9_nudge_1 ⟨Nat.le_of_ble_eq_true rfl, Nat.le_of_ble_eq_true rfl⟩ (fun o_1 H locs eo_1 hP hD hS => ?_)
  refine lv_aload_n hX hB dX9_nudge_4 rfl (lv_at hl 0 rfl) ?_
  refine lv_iload_n hX hB dX9_nudge_5 rfl (lv_at hl 1 rfl) ?_
  refine z_callVi (isC := [0, 1]) (isR := [2, 3]) (isO := [2, 3, 0, 1]) (()) (q_X9_cannotNudge_ok cy h0 h1 h2 h3 h4 h5 h6 h7 h8 h9 o_1.1 v2 v3 v4 v5 v6 v7 v8 v9 v10 v11 g) (fun o_2 => [(h0, .inr (11, [.ref h1, .ref h2, .ref h3, .ref h4, .ref h5, .int o_1.1, .int v2, .int v3, .int v4, .int v5, .ref h6, .int v6, .ref h7, .ref h8, .ref h9, .int v7, .int v8, .int v9, .int v10, .int v11])), (h1, .inl (cy 0, 64, .inl (g))), (h2, .inl (cy 0, 64, .inl (o_1.2))), (h5, .inl (cy 0, 512, .inl (gh)))]) (fun o_2 => 0) (c_X9_cannotNudge_ok l hE D cy h0 h1 h2 h3 h4 h5 h6 h7 h8 h9 o_1.1 v2 v3 v4 v5 v6 v7 v8 v9 v10 v11 g x i hx (by omega) (by omega) hr) hE C zs_X9_143 ⟨Nat.le_of_ble_eq_true rfl, Nat.le_of_ble_eq_true rfl⟩ hP hD hS hA hE0 ⟨rfl, rfl, rfl, by decide, rfl, rfl, rfl⟩ 0 rfl rfl rfl rfl hl.1 (Nat.le_of_ble_eq_true rfl) rfl dX9_nudge_6 ⟨Nat.le_of_ble_eq_true rfl, Nat.le_of_ble_eq_true rfl⟩ (fun o_2 H locs eo_2 hP hD hS => ?_)
  refine lv_istore_n (lv' := [(2, .int 0), (0, .ref h0), (1, .int x)]) hX hB dX9_nudge_9 rfl hl (by decide) rfl (fun ls hl => ?_)
  refine lv_iload_n hX hB dX9_nudge_10 rfl (lv_at hl 0 rfl) ?_
  refine lv_if_le (tgt := 22) hX hB dX9_nudge_11 (by decide) (fun _ => ?_) (fun c => absurd (by decide) c)
  refine lv_aload_n hX hB dX9_nudge_22 rfl (lv_at hl 1 rfl) ?_
  refine lv_aload_n hX hB dX9_nudge_23 rfl (lv_at hl 1 rfl) ?_
  refine lv_iload_n hX hB dX9_nudge_24 rfl (lv_at hl 2 rfl) ?_
  refine z_callVi (isC := [0, 1]) (isR := [2, 3]) (isO := [2, 3, 0, 1]) (n_X9_nudges g x) (q_X9_nudges cy h0 h1 h2 h3 h4 h5 h6 h7 h8 h9 o_1.1 v2 v3 v4 v5 v6 v7 v8 v9 v10 v11) (fun o_3 => [(h0, .inr (11, [.ref h1, .ref h2, .ref h3, .ref h4, .ref h5, .int o_1.1, .int v2, .int v3, .int v4, .int v5, .ref h6, .int v6, .ref h7, .ref h8, .ref h9, .int v7, .int v8, .int v9, .int v10, .int v11])), (h1, .inl (cy 0, 64, .inl (o_3.2))), (h2, .inl (cy 0, 64, .inl (o_1.2))), (h5, .inl (cy 0, 512, .inl (gh)))]) (fun o_3 => o_3.1) (c_X9_nudges l hE D cy h0 h1 h2 h3 h4 h5 h6 h7 h8 h9 o_1.1 v2 v3 v4 v5 v6 v7 v8 v9 v10 v11 g x ) hE C zs_X9_146 ⟨Nat.le_of_ble_eq_true rfl, Nat.le_of_ble_eq_true rfl⟩ hP hD hS hA hE0 ⟨rfl, rfl, rfl, by decide, rfl, rfl, rfl⟩ 0 rfl rfl rfl rfl hl.1 (Nat.le_of_ble_eq_true rfl) rfl dX9_nudge_25 ⟨Nat.le_of_ble_eq_true rfl, Nat.le_of_ble_eq_true rfl⟩ (fun o_3 H locs eo_3 hP hD hS => ?_)
  refine z_callVi (isC := [0, 2, 3]) (isR := [1]) (isO := [1, 0, 2, 3]) (n_X9_commit v2 o_1.2 gh o_3.1) (q_X9_commit cy h0 h1 h2 h3 h4 h5 h6 h7 h8 h9 o_1.1 v3 v4 v5 v6 v7 v8 v9 v10 v11 o_1.2) (fun o_4 => [(h0, .inr (11, [.ref h1, .ref h2, .ref h3, .ref h4, .ref h5, .int o_1.1, .int o_4.2.1, .int v3, .int v4, .int v5, .ref h6, .int v6, .ref h7, .ref h8, .ref h9, .int v7, .int v8, .int v9, .int v10, .int v11])), (h1, .inl (cy 0, 64, .inl (o_3.2))), (h2, .inl (cy 0, 64, .inl (o_1.2))), (h5, .inl (cy 0, 512, .inl (o_4.2.2)))]) (fun o_4 => o_4.1) (c_X9_commit l hE D cy h0 h1 h2 h3 h4 h5 h6 h7 h8 h9 o_1.1 v2 v3 v4 v5 v6 v7 v8 v9 v10 v11 o_1.2 gh o_3.1 (zle_of hd.1 (by omega) (by decide))) hE C zs_X9_94 ⟨Nat.le_of_ble_eq_true rfl, Nat.le_of_ble_eq_true rfl⟩ hP hD hS hA hE0 ⟨rfl, rfl, rfl, by decide, rfl, rfl, rfl⟩ 0 rfl rfl rfl rfl hl.1 (Nat.le_of_ble_eq_true rfl) rfl dX9_nudge_28 ⟨Nat.le_of_ble_eq_true rfl, Nat.le_of_ble_eq_true rfl⟩ (fun o_4 H locs eo_4 hP hD hS => ?_)
  exact z_iret' (o_4.1, o_1.1, o_4.2.1, o_3.2, o_1.2, o_4.2.2) (w' := q_X9_nudge_ok cy h0 h1 h2 h3 h4 h5 h6 h7 h8 h9 v3 v4 v5 v6 v7 v8 v9 v10 v11) (r0 := (fun (o : Int32 × Int32 × Int32 × (Nat → Int32) × (Nat → Int32) × (Nat → Int32)) => o.1)) (by simp only [n_X9_nudge_ok, ← eo_1, ← eo_3, ← eo_4]) C hRT hP hD hS (Nat.le_of_ble_eq_true rfl) (Nat.le_of_ble_eq_true rfl) rfl rfl dX9_nudge_31

def n_X9_nudge_1 (g : Nat → Int32) (gb : Nat → Int32) : Int32 × (Nat → Int32) :=
  let o_1 := n_X9_begin g gb
  let o_3 := n_X9_fail 1
  (o_3, o_1.2)
def q_X9_nudge_1 (cy : Nat → ClassId) (h0 : Nat) (h1 : Nat) (h2 : Nat) (h3 : Nat) (h4 : Nat) (h5 : Nat) (h6 : Nat) (h7 : Nat) (h8 : Nat) (h9 : Nat) (v2 : Int32) (v3 : Int32) (v4 : Int32) (v5 : Int32) (v6 : Int32) (v7 : Int32) (v8 : Int32) (v9 : Int32) (v10 : Int32) (v11 : Int32) (g : Nat → Int32) (gh : Nat → Int32) (o : Int32 × (Nat → Int32)) : va_W := [(h0, .inr (11, [.ref h1, .ref h2, .ref h3, .ref h4, .ref h5, .int o.1, .int v2, .int v3, .int v4, .int v5, .ref h6, .int v6, .ref h7, .ref h8, .ref h9, .int v7, .int v8, .int v9, .int v10, .int v11])), (h1, .inl (cy 0, 64, .inl (g))), (h2, .inl (cy 0, 64, .inl (o.2))), (h5, .inl (cy 0, 512, .inl (gh)))]
set_option maxHeartbeats 4000000 in
set_option maxRecDepth 100000 in
theorem c_X9_nudge_1 (l : Launch) {E : zEn} (hE : zEok E) (D : zG) (cy : Nat → ClassId) (h0 h1 h2 h3 h4 h5 h6 h7 h8 h9 : Nat) (v1 : Int32) (v2 : Int32) (v3 : Int32) (v4 : Int32) (v5 : Int32) (v6 : Int32) (v7 : Int32) (v8 : Int32) (v9 : Int32) (v10 : Int32) (v11 : Int32) (g : Nat → Int32) (gb : Nat → Int32) (gh : Nat → Int32) (x : Int32) (hin : n_X9_in x 1 3 = 0) (hd : zle v2 8) (sz : Nat) : Met l yX9_nudge (zws yX9_nudge cX9_nudge 3 (some .int)) { frames := 2, cells := 0, slots := 0, locals := 44 } (zPre E D cy [.ref h0, .int x] [(h0, .inr (11, [.ref h1, .ref h2, .ref h3, .ref h4, .ref h5, .int v1, .int v2, .int v3, .int v4, .int v5, .ref h6, .int v6, .ref h7, .ref h8, .ref h9, .int v7, .int v8, .int v9, .int v10, .int v11])), (h1, .inl (cy 0, 64, .inl (g))), (h2, .inl (cy 0, 64, .inl (gb))), (h5, .inl (cy 0, 512, .inl (gh)))] sz) (zQi D ((q_X9_nudge_1 cy h0 h1 h2 h3 h4 h5 h6 h7 h8 h9 v2 v3 v4 v5 v6 v7 v8 v9 v10 v11 g gh) (n_X9_nudge_1 g gb)) (va_A [(h0, .inr (11, [.ref h1, .ref h2, .ref h3, .ref h4, .ref h5, .int v1, .int v2, .int v3, .int v4, .int v5, .ref h6, .int v6, .ref h7, .ref h8, .ref h9, .int v7, .int v8, .int v9, .int v10, .int v11])), (h1, .inl (cy 0, 64, .inl (g))), (h2, .inl (cy 0, 64, .inl (gb))), (h5, .inl (cy 0, 512, .inl (gh)))] sz) (0)) 0 0 (va_A [(h0, .inr (11, [.ref h1, .ref h2, .ref h3, .ref h4, .ref h5, .int v1, .int v2, .int v3, .int v4, .int v5, .ref h6, .int v6, .ref h7, .ref h8, .ref h9, .int v7, .int v8, .int v9, .int v10, .int v11])), (h1, .inl (cy 0, 64, .inl (g))), (h2, .inl (cy 0, 64, .inl (gb))), (h5, .inl (cy 0, 512, .inl (gh)))] sz) := by
  refine z_of (Qc := fun A => zQi D ((q_X9_nudge_1 cy h0 h1 h2 h3 h4 h5 h6 h7 h8 h9 v2 v3 v4 v5 v6 v7 v8 v9 v10 v11 g gh) (n_X9_nudge_1 g gb)) A (0)) (by decide +kernel) (Nat.le_of_ble_eq_true rfl) rfl ?_
  intro pG eN sT mI below meth cO A ls C hRT hnm hA hP hD hS hE0 hl
  have hX := C.x
  have hB := C.b
  have hd_ := hd.2
  refine lv_aload_n hX hB dX9_nudge_0 rfl (lv_at hl 0 rfl) ?_
  refine z_callVv (isC := [0, 1, 2]) (isR := [3]) (isO := [1, 2, 3, 0]) (n_X9_begin g gb) (q_X9_begin cy h0 h1 h2 h3 h4 h5 h6 h7 h8 h9 v2 v3 v4 v5 v6 v7 v8 v9 v10 v11 g) (fun o_1 => [(h0, .inr (11, [.ref h1, .ref h2, .ref h3, .ref h4, .ref h5, .int o_1.1, .int v2, .int v3, .int v4, .int v5, .ref h6, .int v6, .ref h7, .ref h8, .ref h9, .int v7, .int v8, .int v9, .int v10, .int v11])), (h1, .inl (cy 0, 64, .inl (g))), (h2, .inl (cy 0, 64, .inl (o_1.2))), (h5, .inl (cy 0, 512, .inl (gh)))]) (c_X9_begin l hE D cy h0 h1 h2 h3 h4 h5 h6 h7 h8 h9 v1 v2 v3 v4 v5 v6 v7 v8 v9 v10 v11 g gb ) hE C zs_X9_80 ⟨Nat.le_of_ble_eq_true rfl, Nat.le_of_ble_eq_true rfl⟩ hP hD hS hA hE0 ⟨rfl, rfl, rfl, by decide, rfl, rfl, rfl⟩ 0 rfl rfl rfl rfl hl.1 (Nat.le_of_ble_eq_true rfl) rfl dX9_nudge_1 ⟨Nat.le_of_ble_eq_true rfl, Nat.le_of_ble_eq_true rfl⟩ (fun o_1 H locs eo_1 hP hD hS => ?_)
  refine lv_aload_n hX hB dX9_nudge_4 rfl (lv_at hl 0 rfl) ?_
  refine lv_iload_n hX hB dX9_nudge_5 rfl (lv_at hl 1 rfl) ?_
  refine z_callVi (isC := [0, 1]) (isR := [2, 3]) (isO := [2, 3, 0, 1]) (()) (q_X9_cannotNudge_1 cy h0 h1 h2 h3 h4 h5 h6 h7 h8 h9 o_1.1 v2 v3 v4 v5 v6 v7 v8 v9 v10 v11 g) (fun o_2 => [(h0, .inr (11, [.ref h1, .ref h2, .ref h3, .ref h4, .ref h5, .int o_1.1, .int v2, .int v3, .int v4, .int v5, .ref h6, .int v6, .ref h7, .ref h8, .ref h9, .int v7, .int v8, .int v9, .int v10, .int v11])), (h1, .inl (cy 0, 64, .inl (g))), (h2, .inl (cy 0, 64, .inl (o_1.2))), (h5, .inl (cy 0, 512, .inl (gh)))]) (fun o_2 => 1) (c_X9_cannotNudge_1 l hE D cy h0 h1 h2 h3 h4 h5 h6 h7 h8 h9 o_1.1 v2 v3 v4 v5 v6 v7 v8 v9 v10 v11 g x hin) hE C zs_X9_143 ⟨Nat.le_of_ble_eq_true rfl, Nat.le_of_ble_eq_true rfl⟩ hP hD hS hA hE0 ⟨rfl, rfl, rfl, by decide, rfl, rfl, rfl⟩ 0 rfl rfl rfl rfl hl.1 (Nat.le_of_ble_eq_true rfl) rfl dX9_nudge_6 ⟨Nat.le_of_ble_eq_true rfl, Nat.le_of_ble_eq_true rfl⟩ (fun o_2 H locs eo_2 hP hD hS => ?_)
  refine lv_istore_n (lv' := [(2, .int 1), (0, .ref h0), (1, .int x)]) hX hB dX9_nudge_9 rfl hl (by decide) rfl (fun ls hl => ?_)
  refine lv_iload_n hX hB dX9_nudge_10 rfl (lv_at hl 0 rfl) ?_
  refine lv_if_le (tgt := 22) hX hB dX9_nudge_11 (by decide) (fun c => absurd c (by decide)) (fun _ => ?_)
  refine lv_aload_n hX hB dX9_nudge_14 rfl (lv_at hl 1 rfl) ?_
  refine lv_iload_n hX hB dX9_nudge_15 rfl (lv_at hl 0 rfl) ?_
  refine z_callVi (isC := [0]) (isR := [1, 2, 3]) (isO := [3, 0, 1, 2]) (n_X9_fail 1) (q_X9_fail h0 h1 h2 h3 h4 h5 h6 h7 h8 h9 v2 v3 v4 v5 v6 v7 v8 v9 v10 v11) (fun o_3 => [(h0, .inr (11, [.ref h1, .ref h2, .ref h3, .ref h4, .ref h5, .int o_3, .int v2, .int v3, .int v4, .int v5, .ref h6, .int v6, .ref h7, .ref h8, .ref h9, .int v7, .int v8, .int v9, .int v10, .int v11])), (h1, .inl (cy 0, 64, .inl (g))), (h2, .inl (cy 0, 64, .inl (o_1.2))), (h5, .inl (cy 0, 512, .inl (gh)))]) (fun o_3 => 0) (c_X9_fail l hE D cy h0 h1 h2 h3 h4 h5 h6 h7 h8 h9 o_1.1 v2 v3 v4 v5 v6 v7 v8 v9 v10 v11 1 ) hE C zs_X9_87 ⟨Nat.le_of_ble_eq_true rfl, Nat.le_of_ble_eq_true rfl⟩ hP hD hS hA hE0 ⟨rfl, rfl, rfl, by decide, rfl, rfl, rfl⟩ 0 rfl rfl rfl rfl hl.1 (Nat.le_of_ble_eq_true rfl) rfl dX9_nudge_16 ⟨Nat.le_of_ble_eq_true rfl, Nat.le_of_ble_eq_true rfl⟩ (fun o_3 H locs eo_3 hP hD hS => ?_)
  refine lv_goto (tgt := 31) hX hB dX9_nudge_19 (by decide) ?_
  exact z_iret' (o_3, o_1.2) (w' := q_X9_nudge_1 cy h0 h1 h2 h3 h4 h5 h6 h7 h8 h9 v2 v3 v4 v5 v6 v7 v8 v9 v10 v11 g gh) (r0 := (fun (o : Int32 × (Nat → Int32)) => 0)) (by simp only [n_X9_nudge_1, ← eo_1, ← eo_3]) C hRT hP hD hS (Nat.le_of_ble_eq_true rfl) (Nat.le_of_ble_eq_true rfl) rfl rfl dX9_nudge_31

def n_X9_nudge_2 (g : Nat → Int32) (gb : Nat → Int32) : Int32 × (Nat → Int32) :=
  let o_1 := n_X9_begin g gb
  let o_3 := n_X9_fail 2
  (o_3, o_1.2)
def q_X9_nudge_2 (cy : Nat → ClassId) (h0 : Nat) (h1 : Nat) (h2 : Nat) (h3 : Nat) (h4 : Nat) (h5 : Nat) (h6 : Nat) (h7 : Nat) (h8 : Nat) (h9 : Nat) (v2 : Int32) (v3 : Int32) (v4 : Int32) (v5 : Int32) (v6 : Int32) (v7 : Int32) (v8 : Int32) (v9 : Int32) (v10 : Int32) (v11 : Int32) (g : Nat → Int32) (gh : Nat → Int32) (o : Int32 × (Nat → Int32)) : va_W := [(h0, .inr (11, [.ref h1, .ref h2, .ref h3, .ref h4, .ref h5, .int o.1, .int v2, .int v3, .int v4, .int v5, .ref h6, .int v6, .ref h7, .ref h8, .ref h9, .int v7, .int v8, .int v9, .int v10, .int v11])), (h1, .inl (cy 0, 64, .inl (g))), (h2, .inl (cy 0, 64, .inl (o.2))), (h5, .inl (cy 0, 512, .inl (gh)))]
set_option maxHeartbeats 4000000 in
set_option maxRecDepth 100000 in
theorem c_X9_nudge_2 (l : Launch) {E : zEn} (hE : zEok E) (D : zG) (cy : Nat → ClassId) (h0 h1 h2 h3 h4 h5 h6 h7 h8 h9 : Nat) (v1 : Int32) (v2 : Int32) (v3 : Int32) (v4 : Int32) (v5 : Int32) (v6 : Int32) (v7 : Int32) (v8 : Int32) (v9 : Int32) (v10 : Int32) (v11 : Int32) (g : Nat → Int32) (gb : Nat → Int32) (gh : Nat → Int32) (x : Int32) (i : Nat) (hx : zi x i) (hxb : i ≤ 3) (hxa : 1 ≤ i) (hr : ¬ g 0 = 1) (hd : zle v2 8) (sz : Nat) : Met l yX9_nudge (zws yX9_nudge cX9_nudge 3 (some .int)) { frames := 2, cells := 0, slots := 0, locals := 44 } (zPre E D cy [.ref h0, .int x] [(h0, .inr (11, [.ref h1, .ref h2, .ref h3, .ref h4, .ref h5, .int v1, .int v2, .int v3, .int v4, .int v5, .ref h6, .int v6, .ref h7, .ref h8, .ref h9, .int v7, .int v8, .int v9, .int v10, .int v11])), (h1, .inl (cy 0, 64, .inl (g))), (h2, .inl (cy 0, 64, .inl (gb))), (h5, .inl (cy 0, 512, .inl (gh)))] sz) (zQi D ((q_X9_nudge_2 cy h0 h1 h2 h3 h4 h5 h6 h7 h8 h9 v2 v3 v4 v5 v6 v7 v8 v9 v10 v11 g gh) (n_X9_nudge_2 g gb)) (va_A [(h0, .inr (11, [.ref h1, .ref h2, .ref h3, .ref h4, .ref h5, .int v1, .int v2, .int v3, .int v4, .int v5, .ref h6, .int v6, .ref h7, .ref h8, .ref h9, .int v7, .int v8, .int v9, .int v10, .int v11])), (h1, .inl (cy 0, 64, .inl (g))), (h2, .inl (cy 0, 64, .inl (gb))), (h5, .inl (cy 0, 512, .inl (gh)))] sz) (0)) 0 0 (va_A [(h0, .inr (11, [.ref h1, .ref h2, .ref h3, .ref h4, .ref h5, .int v1, .int v2, .int v3, .int v4, .int v5, .ref h6, .int v6, .ref h7, .ref h8, .ref h9, .int v7, .int v8, .int v9, .int v10, .int v11])), (h1, .inl (cy 0, 64, .inl (g))), (h2, .inl (cy 0, 64, .inl (gb))), (h5, .inl (cy 0, 512, .inl (gh)))] sz) := by
  refine z_of (Qc := fun A => zQi D ((q_X9_nudge_2 cy h0 h1 h2 h3 h4 h5 h6 h7 h8 h9 v2 v3 v4 v5 v6 v7 v8 v9 v10 v11 g gh) (n_X9_nudge_2 g gb)) A (0)) (by decide +kernel) (Nat.le_of_ble_eq_true rfl) rfl ?_
  intro pG eN sT mI below meth cO A ls C hRT hnm hA hP hD hS hE0 hl
  have hX := C.x
  have hB := C.b
  have hd_ := hd.2
  refine lv_aload_n hX hB dX9_nudge_0 rfl (lv_at hl 0 rfl) ?_
  refine z_callVv (isC := [0, 1, 2]) (isR := [3]) (isO := [1, 2, 3, 0]) (n_X9_begin g gb) (q_X9_begin cy h0 h1 h2 h3 h4 h5 h6 h7 h8 h9 v2 v3 v4 v5 v6 v7 v8 v9 v10 v11 g) (fun o_1 => [(h0, .inr (11, [.ref h1, .ref h2, .ref h3, .ref h4, .ref h5, .int o_1.1, .int v2, .int v3, .int v4, .int v5, .ref h6, .int v6, .ref h7, .ref h8, .ref h9, .int v7, .int v8, .int v9, .int v10, .int v11])), (h1, .inl (cy 0, 64, .inl (g))), (h2, .inl (cy 0, 64, .inl (o_1.2))), (h5, .inl (cy 0, 512, .inl (gh)))]) (c_X9_begin l hE D cy h0 h1 h2 h3 h4 h5 h6 h7 h8 h9 v1 v2 v3 v4 v5 v6 v7 v8 v9 v10 v11 g gb ) hE C zs_X9_80 ⟨Nat.le_of_ble_eq_true rfl, Nat.le_of_ble_eq_true rfl⟩ hP hD hS hA hE0 ⟨rfl, rfl, rfl, by decide, rfl, rfl, rfl⟩ 0 rfl rfl rfl rfl hl.1 (Nat.le_of_ble_eq_true rfl) rfl dX9_nudge_1 ⟨Nat.le_of_ble_eq_true rfl, Nat.le_of_ble_eq_true rfl⟩ (fun o_1 H locs eo_1 hP hD hS => ?_)
  refine lv_aload_n hX hB dX9_nudge_4 rfl (lv_at hl 0 rfl) ?_
  refine lv_iload_n hX hB dX9_nudge_5 rfl (lv_at hl 1 rfl) ?_
  refine z_callVi (isC := [0, 1]) (isR := [2, 3]) (isO := [2, 3, 0, 1]) (()) (q_X9_cannotNudge_2 cy h0 h1 h2 h3 h4 h5 h6 h7 h8 h9 o_1.1 v2 v3 v4 v5 v6 v7 v8 v9 v10 v11 g) (fun o_2 => [(h0, .inr (11, [.ref h1, .ref h2, .ref h3, .ref h4, .ref h5, .int o_1.1, .int v2, .int v3, .int v4, .int v5, .ref h6, .int v6, .ref h7, .ref h8, .ref h9, .int v7, .int v8, .int v9, .int v10, .int v11])), (h1, .inl (cy 0, 64, .inl (g))), (h2, .inl (cy 0, 64, .inl (o_1.2))), (h5, .inl (cy 0, 512, .inl (gh)))]) (fun o_2 => 2) (c_X9_cannotNudge_2 l hE D cy h0 h1 h2 h3 h4 h5 h6 h7 h8 h9 o_1.1 v2 v3 v4 v5 v6 v7 v8 v9 v10 v11 g x i hx (by omega) (by omega) hr) hE C zs_X9_143 ⟨Nat.le_of_ble_eq_true rfl, Nat.le_of_ble_eq_true rfl⟩ hP hD hS hA hE0 ⟨rfl, rfl, rfl, by decide, rfl, rfl, rfl⟩ 0 rfl rfl rfl rfl hl.1 (Nat.le_of_ble_eq_true rfl) rfl dX9_nudge_6 ⟨Nat.le_of_ble_eq_true rfl, Nat.le_of_ble_eq_true rfl⟩ (fun o_2 H locs eo_2 hP hD hS => ?_)
  refine lv_istore_n (lv' := [(2, .int 2), (0, .ref h0), (1, .int x)]) hX hB dX9_nudge_9 rfl hl (by decide) rfl (fun ls hl => ?_)
  refine lv_iload_n hX hB dX9_nudge_10 rfl (lv_at hl 0 rfl) ?_
  refine lv_if_le (tgt := 22) hX hB dX9_nudge_11 (by decide) (fun c => absurd c (by decide)) (fun _ => ?_)
  refine lv_aload_n hX hB dX9_nudge_14 rfl (lv_at hl 1 rfl) ?_
  refine lv_iload_n hX hB dX9_nudge_15 rfl (lv_at hl 0 rfl) ?_
  refine z_callVi (isC := [0]) (isR := [1, 2, 3]) (isO := [3, 0, 1, 2]) (n_X9_fail 2) (q_X9_fail h0 h1 h2 h3 h4 h5 h6 h7 h8 h9 v2 v3 v4 v5 v6 v7 v8 v9 v10 v11) (fun o_3 => [(h0, .inr (11, [.ref h1, .ref h2, .ref h3, .ref h4, .ref h5, .int o_3, .int v2, .int v3, .int v4, .int v5, .ref h6, .int v6, .ref h7, .ref h8, .ref h9, .int v7, .int v8, .int v9, .int v10, .int v11])), (h1, .inl (cy 0, 64, .inl (g))), (h2, .inl (cy 0, 64, .inl (o_1.2))), (h5, .inl (cy 0, 512, .inl (gh)))]) (fun o_3 => 0) (c_X9_fail l hE D cy h0 h1 h2 h3 h4 h5 h6 h7 h8 h9 o_1.1 v2 v3 v4 v5 v6 v7 v8 v9 v10 v11 2 ) hE C zs_X9_87 ⟨Nat.le_of_ble_eq_true rfl, Nat.le_of_ble_eq_true rfl⟩ hP hD hS hA hE0 ⟨rfl, rfl, rfl, by decide, rfl, rfl, rfl⟩ 0 rfl rfl rfl rfl hl.1 (Nat.le_of_ble_eq_true rfl) rfl dX9_nudge_16 ⟨Nat.le_of_ble_eq_true rfl, Nat.le_of_ble_eq_true rfl⟩ (fun o_3 H locs eo_3 hP hD hS => ?_)
  refine lv_goto (tgt := 31) hX hB dX9_nudge_19 (by decide) ?_
  exact z_iret' (o_3, o_1.2) (w' := q_X9_nudge_2 cy h0 h1 h2 h3 h4 h5 h6 h7 h8 h9 v2 v3 v4 v5 v6 v7 v8 v9 v10 v11 g gh) (r0 := (fun (o : Int32 × (Nat → Int32)) => 0)) (by simp only [n_X9_nudge_2, ← eo_1, ← eo_3]) C hRT hP hD hS (Nat.le_of_ble_eq_true rfl) (Nat.le_of_ble_eq_true rfl) rfl rfl dX9_nudge_31

def n_X9_putsRecord (g : Nat → Int32) (a : Nat) (b : Nat) : Nat → Int32 :=
  upd (upd (upd g ((46 + (3 * b)) + 0) (g ((46 + (3 * a)) + 0))) ((46 + (3 * b)) + 1) ((upd g ((46 + (3 * b)) + 0) (g ((46 + (3 * a)) + 0))) ((46 + (3 * a)) + 1))) ((46 + (3 * b)) + 2) ((upd (upd g ((46 + (3 * b)) + 0) (g ((46 + (3 * a)) + 0))) ((46 + (3 * b)) + 1) ((upd g ((46 + (3 * b)) + 0) (g ((46 + (3 * a)) + 0))) ((46 + (3 * a)) + 1))) ((46 + (3 * a)) + 2))
def q_X9_putsRecord (cy : Nat → ClassId) (h0 : Nat) (h1 : Nat) (h2 : Nat) (h3 : Nat) (h4 : Nat) (h5 : Nat) (h6 : Nat) (h7 : Nat) (h8 : Nat) (h9 : Nat) (v1 : Int32) (v2 : Int32) (v3 : Int32) (v4 : Int32) (v5 : Int32) (v6 : Int32) (v7 : Int32) (v8 : Int32) (v9 : Int32) (v10 : Int32) (v11 : Int32) (o : Nat → Int32) : va_W := [(h0, .inr (11, [.ref h1, .ref h2, .ref h3, .ref h4, .ref h5, .int v1, .int v2, .int v3, .int v4, .int v5, .ref h6, .int v6, .ref h7, .ref h8, .ref h9, .int v7, .int v8, .int v9, .int v10, .int v11])), (h1, .inl (cy 0, 64, .inl (o)))]
theorem k_X9_putsRecord (g : Nat → Int32) (a : Nat) (b : Nat)  (j : Nat) (hj : j < 46) : (n_X9_putsRecord g a b) j = g j := by
  simp only [n_X9_putsRecord]
  repeat (any_goals split)
  all_goals (try simp (disch := omega) only [pk_un])
set_option maxHeartbeats 4000000 in
set_option maxRecDepth 100000 in
theorem c_X9_putsRecord (l : Launch) {E : zEn} (hE : zEok E) (D : zG) (cy : Nat → ClassId) (h0 h1 h2 h3 h4 h5 h6 h7 h8 h9 : Nat) (v1 : Int32) (v2 : Int32) (v3 : Int32) (v4 : Int32) (v5 : Int32) (v6 : Int32) (v7 : Int32) (v8 : Int32) (v9 : Int32) (v10 : Int32) (v11 : Int32) (g : Nat → Int32) (x : Int32) (a : Nat) (y : Int32) (b : Nat) (hx : zi x a) (hxb : a ≤ 4) (hy : zi y b) (hyb : b ≤ 4) (sz : Nat) : Met l yX9_putsRecord (zws yX9_putsRecord cX9_putsRecord 4 none) { frames := 0, cells := 0, slots := 0, locals := 0 } (zPre E D cy [.ref h0, .int x, .int y] [(h0, .inr (11, [.ref h1, .ref h2, .ref h3, .ref h4, .ref h5, .int v1, .int v2, .int v3, .int v4, .int v5, .ref h6, .int v6, .ref h7, .ref h8, .ref h9, .int v7, .int v8, .int v9, .int v10, .int v11])), (h1, .inl (cy 0, 64, .inl (g)))] sz) (zQv D ((q_X9_putsRecord cy h0 h1 h2 h3 h4 h5 h6 h7 h8 h9 v1 v2 v3 v4 v5 v6 v7 v8 v9 v10 v11) (n_X9_putsRecord g a b)) (va_A [(h0, .inr (11, [.ref h1, .ref h2, .ref h3, .ref h4, .ref h5, .int v1, .int v2, .int v3, .int v4, .int v5, .ref h6, .int v6, .ref h7, .ref h8, .ref h9, .int v7, .int v8, .int v9, .int v10, .int v11])), (h1, .inl (cy 0, 64, .inl (g)))] sz)) 0 0 (va_A [(h0, .inr (11, [.ref h1, .ref h2, .ref h3, .ref h4, .ref h5, .int v1, .int v2, .int v3, .int v4, .int v5, .ref h6, .int v6, .ref h7, .ref h8, .ref h9, .int v7, .int v8, .int v9, .int v10, .int v11])), (h1, .inl (cy 0, 64, .inl (g)))] sz) := by
  refine z_of (Qc := fun A => zQv D ((q_X9_putsRecord cy h0 h1 h2 h3 h4 h5 h6 h7 h8 h9 v1 v2 v3 v4 v5 v6 v7 v8 v9 v10 v11) (n_X9_putsRecord g a b)) A) (by decide +kernel) (Nat.le_of_ble_eq_true rfl) rfl ?_
  intro pG eN sT mI below meth cO A ls C hRT hnm hA hP hD hS hE0 hl
  have hX := C.x
  have hB := C.b
  refine lv_iconst (v := 0) hX hB dX9_putsRecord_0 (by decide) ?_
  refine lv_istore_n (lv' := [(3, .int 0), (0, .ref h0), (1, .int x), (2, .int y)]) hX hB dX9_putsRecord_1 rfl hl (by decide) rfl (fun ls hl => ?_)
  refine lv_iload_n hX hB dX9_putsRecord_2 rfl (lv_at hl 0 rfl) ?_
  refine lv_iconst (v := 3) hX hB dX9_putsRecord_3 (by decide) ?_
  refine lv_icmp_ge (tgt := 39) hX hB dX9_putsRecord_4 (by decide) (fun c => absurd c (by decide)) (fun _ => ?_)
  refine lv_aload_n hX hB dX9_putsRecord_7 rfl (lv_at hl 1 rfl) ?_
  refine fg_X9_7 C hP 0 rfl rfl dX9_putsRecord_8 ?_
  refine lv_bipush (v := 46) hX hB dX9_putsRecord_11 (by decide) ?_
  refine lv_iconst (v := 3) hX hB dX9_putsRecord_13 (by decide) ?_
  refine lv_iload_n hX hB dX9_putsRecord_14 rfl (lv_at hl 3 rfl) ?_
  refine z_imul (v := nI (3 * b)) C dX9_putsRecord_15 (zi_mul (zlit 3) hy) ?_
  refine z_iadd (v := nI (46 + (3 * b))) C dX9_putsRecord_16 (zi_add (zlit 46) (zi_i (3 * b))) ?_
  refine lv_iload_n hX hB dX9_putsRecord_17 rfl (lv_at hl 0 rfl) ?_
  refine z_iadd (v := nI ((46 + (3 * b)) + 0)) C dX9_putsRecord_18 (zi_add (zi_i (46 + (3 * b))) (zlit 0)) ?_
  refine lv_aload_n hX hB dX9_putsRecord_19 rfl (lv_at hl 1 rfl) ?_
  refine fg_X9_7 C hP 0 rfl rfl dX9_putsRecord_20 ?_
  refine lv_bipush (v := 46) hX hB dX9_putsRecord_23 (by decide) ?_
  refine lv_iconst (v := 3) hX hB dX9_putsRecord_25 (by decide) ?_
  refine lv_iload_n hX hB dX9_putsRecord_26 rfl (lv_at hl 2 rfl) ?_
  refine z_imul (v := nI (3 * a)) C dX9_putsRecord_27 (zi_mul (zlit 3) hx) ?_
  refine z_iadd (v := nI (46 + (3 * a))) C dX9_putsRecord_28 (zi_add (zlit 46) (zi_i (3 * a))) ?_
  refine lv_iload_n hX hB dX9_putsRecord_29 rfl (lv_at hl 0 rfl) ?_
  refine z_iadd (v := nI ((46 + (3 * a)) + 0)) C dX9_putsRecord_30 (zi_add (zi_i (46 + (3 * a))) (zlit 0)) ?_
  refine z_iald C hP 1 rfl (k := (46 + (3 * a)) + 0) (zi_i ((46 + (3 * a)) + 0)) (by omega) (by decide) (v := g ((46 + (3 * a)) + 0)) rfl dX9_putsRecord_31 ?_
  refine z_iast C hP hD hS 1 rfl (k := (46 + (3 * b)) + 0) (zi_i ((46 + (3 * b)) + 0)) (by omega) (by decide) (w' := [(h0, .inr (11, [.ref h1, .ref h2, .ref h3, .ref h4, .ref h5, .int v1, .int v2, .int v3, .int v4, .int v5, .ref h6, .int v6, .ref h7, .ref h8, .ref h9, .int v7, .int v8, .int v9, .int v10, .int v11])), (h1, .inl (cy 0, 64, .inl (upd g ((46 + (3 * b)) + 0) (g ((46 + (3 * a)) + 0)))))]) rfl dX9_putsRecord_32 (fun H locs hP hD hS => ?_)
  refine lv_iinc (v := 1) (lv' := [(3, .int 1), (0, .ref h0), (1, .int x), (2, .int y)]) hX hB dX9_putsRecord_33 hl (k := 0) rfl (by decide) (by decide) rfl (fun ls hl => ?_)
  refine lv_goto (tgt := 2) hX hB dX9_putsRecord_36 (by decide) ?_
  refine lv_iload_n hX hB dX9_putsRecord_2 rfl (lv_at hl 0 rfl) ?_
  refine lv_iconst (v := 3) hX hB dX9_putsRecord_3 (by decide) ?_
  refine lv_icmp_ge (tgt := 39) hX hB dX9_putsRecord_4 (by decide) (fun c => absurd c (by decide)) (fun _ => ?_)
  refine lv_aload_n hX hB dX9_putsRecord_7 rfl (lv_at hl 1 rfl) ?_
  refine fg_X9_7 C hP 0 rfl rfl dX9_putsRecord_8 ?_
  refine lv_bipush (v := 46) hX hB dX9_putsRecord_11 (by decide) ?_
  refine lv_iconst (v := 3) hX hB dX9_putsRecord_13 (by decide) ?_
  refine lv_iload_n hX hB dX9_putsRecord_14 rfl (lv_at hl 3 rfl) ?_
  refine z_imul (v := nI (3 * b)) C dX9_putsRecord_15 (zi_mul (zlit 3) hy) ?_
  refine z_iadd (v := nI (46 + (3 * b))) C dX9_putsRecord_16 (zi_add (zlit 46) (zi_i (3 * b))) ?_
  refine lv_iload_n hX hB dX9_putsRecord_17 rfl (lv_at hl 0 rfl) ?_
  refine z_iadd (v := nI ((46 + (3 * b)) + 1)) C dX9_putsRecord_18 (zi_add (zi_i (46 + (3 * b))) (zlit 1)) ?_
  refine lv_aload_n hX hB dX9_putsRecord_19 rfl (lv_at hl 1 rfl) ?_
  refine fg_X9_7 C hP 0 rfl rfl dX9_putsRecord_20 ?_
  refine lv_bipush (v := 46) hX hB dX9_putsRecord_23 (by decide) ?_
  refine lv_iconst (v := 3) hX hB dX9_putsRecord_25 (by decide) ?_
  refine lv_iload_n hX hB dX9_putsRecord_26 rfl (lv_at hl 2 rfl) ?_
  refine z_imul (v := nI (3 * a)) C dX9_putsRecord_27 (zi_mul (zlit 3) hx) ?_
  refine z_iadd (v := nI (46 + (3 * a))) C dX9_putsRecord_28 (zi_add (zlit 46) (zi_i (3 * a))) ?_
  refine lv_iload_n hX hB dX9_putsRecord_29 rfl (lv_at hl 0 rfl) ?_
  refine z_iadd (v := nI ((46 + (3 * a)) + 1)) C dX9_putsRecord_30 (zi_add (zi_i (46 + (3 * a))) (zlit 1)) ?_
  refine z_iald C hP 1 rfl (k := (46 + (3 * a)) + 1) (zi_i ((46 + (3 * a)) + 1)) (by omega) (by decide) (v := (upd g ((46 + (3 * b)) + 0) (g ((46 + (3 * a)) + 0))) ((46 + (3 * a)) + 1)) rfl dX9_putsRecord_31 ?_
  refine z_iast C hP hD hS 1 rfl (k := (46 + (3 * b)) + 1) (zi_i ((46 + (3 * b)) + 1)) (by omega) (by decide) (w' := [(h0, .inr (11, [.ref h1, .ref h2, .ref h3, .ref h4, .ref h5, .int v1, .int v2, .int v3, .int v4, .int v5, .ref h6, .int v6, .ref h7, .ref h8, .ref h9, .int v7, .int v8, .int v9, .int v10, .int v11])), (h1, .inl (cy 0, 64, .inl (upd (upd g ((46 + (3 * b)) + 0) (g ((46 + (3 * a)) + 0))) ((46 + (3 * b)) + 1) ((upd g ((46 + (3 * b)) + 0) (g ((46 + (3 * a)) + 0))) ((46 + (3 * a)) + 1)))))]) rfl dX9_putsRecord_32 (fun H locs hP hD hS => ?_)
  refine lv_iinc (v := 2) (lv' := [(3, .int 2), (0, .ref h0), (1, .int x), (2, .int y)]) hX hB dX9_putsRecord_33 hl (k := 0) rfl (by decide) (by decide) rfl (fun ls hl => ?_)
  refine lv_goto (tgt := 2) hX hB dX9_putsRecord_36 (by decide) ?_
  refine lv_iload_n hX hB dX9_putsRecord_2 rfl (lv_at hl 0 rfl) ?_
  refine lv_iconst (v := 3) hX hB dX9_putsRecord_3 (by decide) ?_
  refine lv_icmp_ge (tgt := 39) hX hB dX9_putsRecord_4 (by decide) (fun c => absurd c (by decide)) (fun _ => ?_)
  refine lv_aload_n hX hB dX9_putsRecord_7 rfl (lv_at hl 1 rfl) ?_
  refine fg_X9_7 C hP 0 rfl rfl dX9_putsRecord_8 ?_
  refine lv_bipush (v := 46) hX hB dX9_putsRecord_11 (by decide) ?_
  refine lv_iconst (v := 3) hX hB dX9_putsRecord_13 (by decide) ?_
  refine lv_iload_n hX hB dX9_putsRecord_14 rfl (lv_at hl 3 rfl) ?_
  refine z_imul (v := nI (3 * b)) C dX9_putsRecord_15 (zi_mul (zlit 3) hy) ?_
  refine z_iadd (v := nI (46 + (3 * b))) C dX9_putsRecord_16 (zi_add (zlit 46) (zi_i (3 * b))) ?_
  refine lv_iload_n hX hB dX9_putsRecord_17 rfl (lv_at hl 0 rfl) ?_
  refine z_iadd (v := nI ((46 + (3 * b)) + 2)) C dX9_putsRecord_18 (zi_add (zi_i (46 + (3 * b))) (zlit 2)) ?_
  refine lv_aload_n hX hB dX9_putsRecord_19 rfl (lv_at hl 1 rfl) ?_
  refine fg_X9_7 C hP 0 rfl rfl dX9_putsRecord_20 ?_
  refine lv_bipush (v := 46) hX hB dX9_putsRecord_23 (by decide) ?_
  refine lv_iconst (v := 3) hX hB dX9_putsRecord_25 (by decide) ?_
  refine lv_iload_n hX hB dX9_putsRecord_26 rfl (lv_at hl 2 rfl) ?_
  refine z_imul (v := nI (3 * a)) C dX9_putsRecord_27 (zi_mul (zlit 3) hx) ?_
  refine z_iadd (v := nI (46 + (3 * a))) C dX9_putsRecord_28 (zi_add (zlit 46) (zi_i (3 * a))) ?_
  refine lv_iload_n hX hB dX9_putsRecord_29 rfl (lv_at hl 0 rfl) ?_
  refine z_iadd (v := nI ((46 + (3 * a)) + 2)) C dX9_putsRecord_30 (zi_add (zi_i (46 + (3 * a))) (zlit 2)) ?_
  refine z_iald C hP 1 rfl (k := (46 + (3 * a)) + 2) (zi_i ((46 + (3 * a)) + 2)) (by omega) (by decide) (v := (upd (upd g ((46 + (3 * b)) + 0) (g ((46 + (3 * a)) + 0))) ((46 + (3 * b)) + 1) ((upd g ((46 + (3 * b)) + 0) (g ((46 + (3 * a)) + 0))) ((46 + (3 * a)) + 1))) ((46 + (3 * a)) + 2)) rfl dX9_putsRecord_31 ?_
  refine z_iast C hP hD hS 1 rfl (k := (46 + (3 * b)) + 2) (zi_i ((46 + (3 * b)) + 2)) (by omega) (by decide) (w' := [(h0, .inr (11, [.ref h1, .ref h2, .ref h3, .ref h4, .ref h5, .int v1, .int v2, .int v3, .int v4, .int v5, .ref h6, .int v6, .ref h7, .ref h8, .ref h9, .int v7, .int v8, .int v9, .int v10, .int v11])), (h1, .inl (cy 0, 64, .inl (upd (upd (upd g ((46 + (3 * b)) + 0) (g ((46 + (3 * a)) + 0))) ((46 + (3 * b)) + 1) ((upd g ((46 + (3 * b)) + 0) (g ((46 + (3 * a)) + 0))) ((46 + (3 * a)) + 1))) ((46 + (3 * b)) + 2) ((upd (upd g ((46 + (3 * b)) + 0) (g ((46 + (3 * a)) + 0))) ((46 + (3 * b)) + 1) ((upd g ((46 + (3 * b)) + 0) (g ((46 + (3 * a)) + 0))) ((46 + (3 * a)) + 1))) ((46 + (3 * a)) + 2)))))]) rfl dX9_putsRecord_32 (fun H locs hP hD hS => ?_)
  refine lv_iinc (v := 3) (lv' := [(3, .int 3), (0, .ref h0), (1, .int x), (2, .int y)]) hX hB dX9_putsRecord_33 hl (k := 0) rfl (by decide) (by decide) rfl (fun ls hl => ?_)
  refine lv_goto (tgt := 2) hX hB dX9_putsRecord_36 (by decide) ?_
  refine lv_iload_n hX hB dX9_putsRecord_2 rfl (lv_at hl 0 rfl) ?_
  refine lv_iconst (v := 3) hX hB dX9_putsRecord_3 (by decide) ?_
  refine lv_icmp_ge (tgt := 39) hX hB dX9_putsRecord_4 (by decide) (fun _ => ?_) (fun c => absurd (by decide) c)
  exact z_vret' (upd (upd (upd g ((46 + (3 * b)) + 0) (g ((46 + (3 * a)) + 0))) ((46 + (3 * b)) + 1) ((upd g ((46 + (3 * b)) + 0) (g ((46 + (3 * a)) + 0))) ((46 + (3 * a)) + 1))) ((46 + (3 * b)) + 2) ((upd (upd g ((46 + (3 * b)) + 0) (g ((46 + (3 * a)) + 0))) ((46 + (3 * b)) + 1) ((upd g ((46 + (3 * b)) + 0) (g ((46 + (3 * a)) + 0))) ((46 + (3 * a)) + 1))) ((46 + (3 * a)) + 2))) (w' := q_X9_putsRecord cy h0 h1 h2 h3 h4 h5 h6 h7 h8 h9 v1 v2 v3 v4 v5 v6 v7 v8 v9 v10 v11) (by simp only [n_X9_putsRecord]) C hRT hP hD hS (Nat.le_of_ble_eq_true rfl) (Nat.le_of_ble_eq_true rfl) rfl dX9_putsRecord_39

def n_X9_enters_L5 (g : Nat → Int32) (x : Int32) (i : Nat) (p : Nat) : Nat → (Nat → Int32) → Nat → Nat → Int32
  | 0, f_25, _ => f_25
  | n_24 + 1, f_25, k =>
    if nI k ≤ nI p then
      upd (upd (upd f_25 (46 + (3 * p)) (g (30 + i))) ((46 + (3 * p)) + 1) x) ((46 + (3 * p)) + 2) (f_25 1)
    else
      let o_28 := n_X9_putsRecord f_25 (k - 1) k
      n_X9_enters_L5 g x i p n_24 o_28 (k - 1)
def n_X9_enters_L1 (g : Nat → Int32) (x : Int32) (i : Nat) : Nat → Nat → Nat → Int32
  | 0, _ => g
  | n_1 + 1, p =>
    if nI p ≤ 0 then
      if nI p = 5 then
        g
      else
        if 5 ≤ g 13 then
          n_X9_enters_L5 g x i p 5 g ((zn (g 13)) - 1)
        else
          n_X9_enters_L5 g x i p 5 (upd g 13 (nI ((zn (g 13)) + 1))) (((zn (g 13)) + 1) - 1)
    else
      if g (30 + i) ≤ g ((46 + (3 * p)) - 3) then
        if nI p = 5 then
          g
        else
          if 5 ≤ g 13 then
            n_X9_enters_L5 g x i p 5 g ((zn (g 13)) - 1)
          else
            n_X9_enters_L5 g x i p 5 (upd g 13 (nI ((zn (g 13)) + 1))) (((zn (g 13)) + 1) - 1)
      else
        n_X9_enters_L1 g x i n_1 (p - 1)
def n_X9_enters (g : Nat → Int32) (x : Int32) (i : Nat) : Nat → Int32 :=
  n_X9_enters_L1 g x i 6 (zn (g 13))
def q_X9_enters (cy : Nat → ClassId) (h0 : Nat) (h1 : Nat) (h2 : Nat) (h3 : Nat) (h4 : Nat) (h5 : Nat) (h6 : Nat) (h7 : Nat) (h8 : Nat) (h9 : Nat) (v1 : Int32) (v2 : Int32) (v3 : Int32) (v4 : Int32) (v5 : Int32) (v6 : Int32) (v7 : Int32) (v8 : Int32) (v9 : Int32) (v10 : Int32) (v11 : Int32) (o : Nat → Int32) : va_W := [(h0, .inr (11, [.ref h1, .ref h2, .ref h3, .ref h4, .ref h5, .int v1, .int v2, .int v3, .int v4, .int v5, .ref h6, .int v6, .ref h7, .ref h8, .ref h9, .int v7, .int v8, .int v9, .int v10, .int v11])), (h1, .inl (cy 0, 64, .inl (o)))]
set_option maxHeartbeats 4000000 in
set_option maxRecDepth 100000 in
theorem c_X9_enters (l : Launch) {E : zEn} (hE : zEok E) (D : zG) (cy : Nat → ClassId) (h0 h1 h2 h3 h4 h5 h6 h7 h8 h9 : Nat) (v1 : Int32) (v2 : Int32) (v3 : Int32) (v4 : Int32) (v5 : Int32) (v6 : Int32) (v7 : Int32) (v8 : Int32) (v9 : Int32) (v10 : Int32) (v11 : Int32) (g : Nat → Int32) (x : Int32) (i : Nat) (hx : zi x i) (hxb : i ≤ 3) (hq : zle (g 13) 5) (sz : Nat) : Met l yX9_enters (zws yX9_enters cX9_enters 5 none) { frames := 1, cells := 0, slots := 0, locals := 23 } (zPre E D cy [.ref h0, .int x] [(h0, .inr (11, [.ref h1, .ref h2, .ref h3, .ref h4, .ref h5, .int v1, .int v2, .int v3, .int v4, .int v5, .ref h6, .int v6, .ref h7, .ref h8, .ref h9, .int v7, .int v8, .int v9, .int v10, .int v11])), (h1, .inl (cy 0, 64, .inl (g)))] sz) (zQv D ((q_X9_enters cy h0 h1 h2 h3 h4 h5 h6 h7 h8 h9 v1 v2 v3 v4 v5 v6 v7 v8 v9 v10 v11) (n_X9_enters g x i)) (va_A [(h0, .inr (11, [.ref h1, .ref h2, .ref h3, .ref h4, .ref h5, .int v1, .int v2, .int v3, .int v4, .int v5, .ref h6, .int v6, .ref h7, .ref h8, .ref h9, .int v7, .int v8, .int v9, .int v10, .int v11])), (h1, .inl (cy 0, 64, .inl (g)))] sz)) 0 0 (va_A [(h0, .inr (11, [.ref h1, .ref h2, .ref h3, .ref h4, .ref h5, .int v1, .int v2, .int v3, .int v4, .int v5, .ref h6, .int v6, .ref h7, .ref h8, .ref h9, .int v7, .int v8, .int v9, .int v10, .int v11])), (h1, .inl (cy 0, 64, .inl (g)))] sz) := by
  refine z_of (Qc := fun A => zQv D ((q_X9_enters cy h0 h1 h2 h3 h4 h5 h6 h7 h8 h9 v1 v2 v3 v4 v5 v6 v7 v8 v9 v10 v11) (n_X9_enters g x i)) A) (by decide +kernel) (Nat.le_of_ble_eq_true rfl) rfl ?_
  intro pG eN sT mI below meth cO A ls C hRT hnm hA hP hD hS hE0 hl
  have hX := C.x
  have hB := C.b
  have hq_ := hq.2
  refine lv_aload_n hX hB dX9_enters_0 rfl (lv_at hl 0 rfl) ?_
  refine fg_X9_7 C hP 0 rfl rfl dX9_enters_1 ?_
  refine lv_bipush (v := 30) hX hB dX9_enters_4 (by decide) ?_
  refine lv_iload_n hX hB dX9_enters_6 rfl (lv_at hl 1 rfl) ?_
  refine z_iadd (v := nI (30 + i)) C dX9_enters_7 (zi_add (zlit 30) hx) ?_
  refine z_iald C hP 1 rfl (k := 30 + i) (zi_i (30 + i)) (by omega) (by decide) (v := g (30 + i)) rfl dX9_enters_8 ?_
  refine lv_istore_n (lv' := [(2, .int (g (30 + i))), (0, .ref h0), (1, .int x)]) hX hB dX9_enters_9 rfl hl (by decide) rfl (fun ls hl => ?_)
  refine lv_aload_n hX hB dX9_enters_10 rfl (lv_at hl 1 rfl) ?_
  refine fg_X9_7 C hP 0 rfl rfl dX9_enters_11 ?_
  refine lv_bipush (v := 13) hX hB dX9_enters_14 (by decide) ?_
  refine z_iald C hP 1 rfl (k := 13) (zlit 13) (by decide) (by decide) (v := g 13) rfl dX9_enters_16 ?_
  refine lv_istore_n (lv' := [(3, .int (g 13)), (2, .int (g (30 + i))), (0, .ref h0), (1, .int x)]) hX hB dX9_enters_17 rfl hl (by decide) rfl (fun ls hl => ?_)
  have loop_0 : ∀ (n_1 : Nat) (p : Nat), (p ≤ 5) → p < n_1 → n_X9_enters_L1 g x i n_1 p = n_X9_enters g x i → ∀ (H : Heap) (locs : List Loc), va_P D vwCl [(h0, .inr (11, [.ref h1, .ref h2, .ref h3, .ref h4, .ref h5, .int v1, .int v2, .int v3, .int v4, .int v5, .ref h6, .int v6, .ref h7, .ref h8, .ref h9, .int v7, .int v8, .int v9, .int v10, .int v11])), (h1, .inl (cy 0, 64, .inl (g)))] H → va_D A [(h0, .inr (11, [.ref h1, .ref h2, .ref h3, .ref h4, .ref h5, .int v1, .int v2, .int v3, .int v4, .int v5, .ref h6, .int v6, .ref h7, .ref h8, .ref h9, .int v7, .int v8, .int v9, .int v10, .int v11])), (h1, .inl (cy 0, 64, .inl (g)))] → va_S A sT.heap H locs → ∀ (ls : Array Slot), lv_has ls 5 [(3, .int (nI p)), (2, .int (g (30 + i))), (0, .ref h0), (1, .int x)] → W pG l eN { frames := 1, cells := 0, slots := 0, locals := 23 } sT mI ([.ref h0, .int x] : List Value).toArray below meth cO H locs 0 0 (MQ below (zQv D ((q_X9_enters cy h0 h1 h2 h3 h4 h5 h6 h7 h8 h9 v1 v2 v3 v4 v5 v6 v7 v8 v9 v10 v11) (n_X9_enters g x i)) A) ([.ref h0, .int x] : List Value).toArray sT 0 0 A) (F0 mI 18 ls []) := by
    intro n_1
    induction n_1 with
    | zero =>
      intro p hb_0_0 hm_0
      exact absurd hm_0 (by omega)
    | succ n_1 ih_2 =>
      intro p hb_0_0 hm_0 hF_0 H locs hP hD hS ls hl
      refine lv_iload_n hX hB dX9_enters_18 rfl (lv_at hl 0 rfl) ?_
      refine lv_if_le (tgt := 45) hX hB dX9_enters_19 (by decide) (fun c_3 => ?_) (fun c_3 => ?_)
      · have c_3n : p ≤ 0 := (zi_le_iff (zi_i p) (zlit 0) (by omega) (by decide)).mp c_3
        refine lv_iload_n hX hB dX9_enters_45 rfl (lv_at hl 0 rfl) ?_
        refine lv_iconst (v := 5) hX hB dX9_enters_46 (by decide) ?_
        refine lv_icmp_ne (tgt := 51) hX hB dX9_enters_47 (by decide) (fun c_4 => ?_) (fun c_4 => ?_)
        · have c_4n : ¬ (p = 5) := fun z => c_4 ((zi_eq_iff (zi_i p) (zlit 5) (by omega) (by decide)).mpr z)
          refine lv_aload_n hX hB dX9_enters_51 rfl (lv_at hl 2 rfl) ?_
          refine fg_X9_7 C hP 0 rfl rfl dX9_enters_52 ?_
          refine lv_bipush (v := 13) hX hB dX9_enters_55 (by decide) ?_
          refine z_iald C hP 1 rfl (k := 13) (zlit 13) (by decide) (by decide) (v := g 13) rfl dX9_enters_57 ?_
          refine lv_iconst (v := 5) hX hB dX9_enters_58 (by decide) ?_
          refine lv_icmp_ge (tgt := 73) hX hB dX9_enters_59 (by decide) (fun c_5 => ?_) (fun c_5 => ?_)
          · have c_5n : 5 ≤ zn (g 13) := (zi_le_iff (zlit 5) hq.1 (by decide) (by omega)).mp c_5
            refine lv_aload_n hX hB dX9_enters_73 rfl (lv_at hl 2 rfl) ?_
            refine fg_X9_7 C hP 0 rfl rfl dX9_enters_74 ?_
            refine lv_bipush (v := 13) hX hB dX9_enters_77 (by decide) ?_
            refine z_iald C hP 1 rfl (k := 13) (zlit 13) (by decide) (by decide) (v := g 13) rfl dX9_enters_79 ?_
            refine lv_iconst (v := 1) hX hB dX9_enters_80 (by decide) ?_
            refine z_isub (v := nI ((zn (g 13)) - 1)) C dX9_enters_81 (zi_sub hq.1 (zlit 1) (by omega)) ?_
            refine lv_istore (lv' := [(4, .int (nI ((zn (g 13)) - 1))), (3, .int (nI p)), (2, .int (g (30 + i))), (0, .ref h0), (1, .int x)]) hX hB dX9_enters_82 hl (by decide) rfl (fun ls hl => ?_)
            have loop_1 : ∀ (n_6 : Nat) (f_7 : Nat → Int32) (k : Nat), (k ≤ 4) → k < n_6 → n_X9_enters_L5 g x i p n_6 f_7 k = n_X9_enters g x i → ∀ (H : Heap) (locs : List Loc), va_P D vwCl [(h0, .inr (11, [.ref h1, .ref h2, .ref h3, .ref h4, .ref h5, .int v1, .int v2, .int v3, .int v4, .int v5, .ref h6, .int v6, .ref h7, .ref h8, .ref h9, .int v7, .int v8, .int v9, .int v10, .int v11])), (h1, .inl (cy 0, 64, .inl (f_7)))] H → va_D A [(h0, .inr (11, [.ref h1, .ref h2, .ref h3, .ref h4, .ref h5, .int v1, .int v2, .int v3, .int v4, .int v5, .ref h6, .int v6, .ref h7, .ref h8, .ref h9, .int v7, .int v8, .int v9, .int v10, .int v11])), (h1, .inl (cy 0, 64, .inl (f_7)))] → va_S A sT.heap H locs → ∀ (ls : Array Slot), lv_has ls 5 [(4, .int (nI k)), (3, .int (nI p)), (2, .int (g (30 + i))), (0, .ref h0), (1, .int x)] → W pG l eN { frames := 1, cells := 0, slots := 0, locals := 23 } sT mI ([.ref h0, .int x] : List Value).toArray below meth cO H locs 0 0 (MQ below (zQv D ((q_X9_enters cy h0 h1 h2 h3 h4 h5 h6 h7 h8 h9 v1 v2 v3 v4 v5 v6 v7 v8 v9 v10 v11) (n_X9_enters g x i)) A) ([.ref h0, .int x] : List Value).toArray sT 0 0 A) (F0 mI 84 ls []) := by
              intro n_6
              induction n_6 with
              | zero =>
                intro f_7 k hb_1_0 hm_1
                exact absurd hm_1 (by omega)
              | succ n_6 ih_8 =>
                intro f_7 k hb_1_0 hm_1 hF_1 H locs hP hD hS ls hl
                refine lv_iload hX hB dX9_enters_84 (lv_at hl 0 rfl) ?_
                refine lv_iload_n hX hB dX9_enters_86 rfl (lv_at hl 1 rfl) ?_
                refine lv_icmp_le (tgt := 106) hX hB dX9_enters_87 (by decide) (fun c_9 => ?_) (fun c_9 => ?_)
                · have c_9n : k ≤ p := (zi_le_iff (zi_i k) (zi_i p) (by omega) (by omega)).mp c_9
                  refine lv_aload_n hX hB dX9_enters_106 rfl (lv_at hl 3 rfl) ?_
                  refine fg_X9_7 C hP 0 rfl rfl dX9_enters_107 ?_
                  refine lv_bipush (v := 46) hX hB dX9_enters_110 (by decide) ?_
                  refine lv_iconst (v := 3) hX hB dX9_enters_112 (by decide) ?_
                  refine lv_iload_n hX hB dX9_enters_113 rfl (lv_at hl 1 rfl) ?_
                  refine z_imul (v := nI (3 * p)) C dX9_enters_114 (zi_mul (zlit 3) (zi_i p)) ?_
                  refine z_iadd (v := nI (46 + (3 * p))) C dX9_enters_115 (zi_add (zlit 46) (zi_i (3 * p))) ?_
                  refine lv_iload_n hX hB dX9_enters_116 rfl (lv_at hl 2 rfl) ?_
                  refine z_iast C hP hD hS 1 rfl (k := 46 + (3 * p)) (zi_i (46 + (3 * p))) (by omega) (by decide) (w' := [(h0, .inr (11, [.ref h1, .ref h2, .ref h3, .ref h4, .ref h5, .int v1, .int v2, .int v3, .int v4, .int v5, .ref h6, .int v6, .ref h7, .ref h8, .ref h9, .int v7, .int v8, .int v9, .int v10, .int v11])), (h1, .inl (cy 0, 64, .inl (upd f_7 (46 + (3 * p)) (g (30 + i)))))]) rfl dX9_enters_117 (fun H locs hP hD hS => ?_)
                  refine lv_aload_n hX hB dX9_enters_118 rfl (lv_at hl 3 rfl) ?_
                  refine fg_X9_7 C hP 0 rfl rfl dX9_enters_119 ?_
                  refine lv_bipush (v := 46) hX hB dX9_enters_122 (by decide) ?_
                  refine lv_iconst (v := 3) hX hB dX9_enters_124 (by decide) ?_
                  refine lv_iload_n hX hB dX9_enters_125 rfl (lv_at hl 1 rfl) ?_
                  refine z_imul (v := nI (3 * p)) C dX9_enters_126 (zi_mul (zlit 3) (zi_i p)) ?_
                  refine z_iadd (v := nI (46 + (3 * p))) C dX9_enters_127 (zi_add (zlit 46) (zi_i (3 * p))) ?_
                  refine lv_iconst (v := 1) hX hB dX9_enters_128 (by decide) ?_
                  refine z_iadd (v := nI ((46 + (3 * p)) + 1)) C dX9_enters_129 (zi_add (zi_i (46 + (3 * p))) (zlit 1)) ?_
                  refine lv_iload_n hX hB dX9_enters_130 rfl (lv_at hl 4 rfl) ?_
                  refine z_iast C hP hD hS 1 rfl (k := (46 + (3 * p)) + 1) (zi_i ((46 + (3 * p)) + 1)) (by omega) (by decide) (w' := [(h0, .inr (11, [.ref h1, .ref h2, .ref h3, .ref h4, .ref h5, .int v1, .int v2, .int v3, .int v4, .int v5, .ref h6, .int v6, .ref h7, .ref h8, .ref h9, .int v7, .int v8, .int v9, .int v10, .int v11])), (h1, .inl (cy 0, 64, .inl (upd (upd f_7 (46 + (3 * p)) (g (30 + i))) ((46 + (3 * p)) + 1) x)))]) rfl dX9_enters_131 (fun H locs hP hD hS => ?_)
                  refine lv_aload_n hX hB dX9_enters_132 rfl (lv_at hl 3 rfl) ?_
                  refine fg_X9_7 C hP 0 rfl rfl dX9_enters_133 ?_
                  refine lv_bipush (v := 46) hX hB dX9_enters_136 (by decide) ?_
                  refine lv_iconst (v := 3) hX hB dX9_enters_138 (by decide) ?_
                  refine lv_iload_n hX hB dX9_enters_139 rfl (lv_at hl 1 rfl) ?_
                  refine z_imul (v := nI (3 * p)) C dX9_enters_140 (zi_mul (zlit 3) (zi_i p)) ?_
                  refine z_iadd (v := nI (46 + (3 * p))) C dX9_enters_141 (zi_add (zlit 46) (zi_i (3 * p))) ?_
                  refine lv_iconst (v := 2) hX hB dX9_enters_142 (by decide) ?_
                  refine z_iadd (v := nI ((46 + (3 * p)) + 2)) C dX9_enters_143 (zi_add (zi_i (46 + (3 * p))) (zlit 2)) ?_
                  refine lv_aload_n hX hB dX9_enters_144 rfl (lv_at hl 3 rfl) ?_
                  refine fg_X9_7 C hP 0 rfl rfl dX9_enters_145 ?_
                  refine lv_iconst (v := 1) hX hB dX9_enters_148 (by decide) ?_
                  refine z_iald C hP 1 rfl (k := 1) (zlit 1) (by decide) (by decide) (v := f_7 1) ((pk_un (by omega)).trans (pk_un (by omega))) dX9_enters_149 ?_
                  refine z_iast C hP hD hS 1 rfl (k := (46 + (3 * p)) + 2) (zi_i ((46 + (3 * p)) + 2)) (by omega) (by decide) (w' := [(h0, .inr (11, [.ref h1, .ref h2, .ref h3, .ref h4, .ref h5, .int v1, .int v2, .int v3, .int v4, .int v5, .ref h6, .int v6, .ref h7, .ref h8, .ref h9, .int v7, .int v8, .int v9, .int v10, .int v11])), (h1, .inl (cy 0, 64, .inl (upd (upd (upd f_7 (46 + (3 * p)) (g (30 + i))) ((46 + (3 * p)) + 1) x) ((46 + (3 * p)) + 2) (f_7 1))))]) rfl dX9_enters_150 (fun H locs hP hD hS => ?_)
                  exact z_vret' (upd (upd (upd f_7 (46 + (3 * p)) (g (30 + i))) ((46 + (3 * p)) + 1) x) ((46 + (3 * p)) + 2) (f_7 1)) (w' := q_X9_enters cy h0 h1 h2 h3 h4 h5 h6 h7 h8 h9 v1 v2 v3 v4 v5 v6 v7 v8 v9 v10 v11) (hF_1.symm.trans (by simp only [n_X9_enters_L5, if_pos c_9])) C hRT hP hD hS (Nat.le_of_ble_eq_true rfl) (Nat.le_of_ble_eq_true rfl) rfl dX9_enters_151
                · have c_9n : ¬ (k ≤ p) := fun z => c_9 ((zi_le_iff (zi_i k) (zi_i p) (by omega) (by omega)).mpr z)
                  refine lv_aload_n hX hB dX9_enters_90 rfl (lv_at hl 3 rfl) ?_
                  refine lv_iload hX hB dX9_enters_91 (lv_at hl 0 rfl) ?_
                  refine lv_iconst (v := 1) hX hB dX9_enters_93 (by decide) ?_
                  refine z_isub (v := nI (k - 1)) C dX9_enters_94 (zi_sub (zi_i k) (zlit 1) (by omega)) ?_
                  refine lv_iload hX hB dX9_enters_95 (lv_at hl 0 rfl) ?_
                  refine z_callVv (isC := [0, 1]) (isR := []) (isO := [0, 1]) (n_X9_putsRecord f_7 (k - 1) k) (q_X9_putsRecord cy h0 h1 h2 h3 h4 h5 h6 h7 h8 h9 v1 v2 v3 v4 v5 v6 v7 v8 v9 v10 v11) (fun o_10 => [(h0, .inr (11, [.ref h1, .ref h2, .ref h3, .ref h4, .ref h5, .int v1, .int v2, .int v3, .int v4, .int v5, .ref h6, .int v6, .ref h7, .ref h8, .ref h9, .int v7, .int v8, .int v9, .int v10, .int v11])), (h1, .inl (cy 0, 64, .inl (o_10)))]) (c_X9_putsRecord l hE D cy h0 h1 h2 h3 h4 h5 h6 h7 h8 h9 v1 v2 v3 v4 v5 v6 v7 v8 v9 v10 v11 f_7 (nI (k - 1)) (k - 1) (nI k) k (zi_i (k - 1)) (by omega) (zi_i k) (by omega)) hE C zs_X9_149 ⟨Nat.le_of_ble_eq_true rfl, Nat.le_of_ble_eq_true rfl⟩ hP hD hS hA hE0 ⟨rfl, rfl, rfl, by decide, rfl, rfl, rfl⟩ 0 rfl rfl rfl rfl hl.1 (Nat.le_of_ble_eq_true rfl) rfl dX9_enters_97 ⟨Nat.le_of_ble_eq_true rfl, Nat.le_of_ble_eq_true rfl⟩ (fun o_10 H locs eo_10 hP hD hS => ?_)
                  refine lv_iinc (v := nI (k - 1)) (lv' := [(4, .int (nI (k - 1))), (3, .int (nI p)), (2, .int (g (30 + i))), (0, .ref h0), (1, .int x)]) hX hB dX9_enters_100 hl (k := 0) rfl (zi_dec2 (zi_i k) (by omega)) (by decide) rfl (fun ls hl => ?_)
                  refine lv_goto (tgt := 84) hX hB dX9_enters_103 (by decide) ?_
                  exact ih_8 o_10 (k - 1) (by omega)  (by omega) (Eq.trans (by simp only [n_X9_enters_L5, if_neg c_9, ← eo_10]) hF_1) _ _ hP hD hS ls (lv_sub hl [0, 1, 2, 3, 4] rfl)
            exact loop_1 5 g ((zn (g 13)) - 1) (by omega)  (by omega) (Eq.trans (by simp only [n_X9_enters_L1, if_pos c_3, if_neg c_4, if_pos c_5]) hF_0) _ _ hP hD hS ls hl
          · have c_5n : ¬ (5 ≤ zn (g 13)) := fun z => c_5 ((zi_le_iff (zlit 5) hq.1 (by decide) (by omega)).mpr z)
            refine lv_aload_n hX hB dX9_enters_62 rfl (lv_at hl 2 rfl) ?_
            refine fg_X9_7 C hP 0 rfl rfl dX9_enters_63 ?_
            refine lv_bipush (v := 13) hX hB dX9_enters_66 (by decide) ?_
            refine lv_dup2_11 hX hB dX9_enters_68 rfl rfl ?_
            refine z_iald C hP 1 rfl (k := 13) (zlit 13) (by decide) (by decide) (v := g 13) rfl dX9_enters_69 ?_
            refine lv_iconst (v := 1) hX hB dX9_enters_70 (by decide) ?_
            refine z_iadd (v := nI ((zn (g 13)) + 1)) C dX9_enters_71 (zi_add hq.1 (zlit 1)) ?_
            refine z_iast C hP hD hS 1 rfl (k := 13) (zlit 13) (by decide) (by decide) (w' := [(h0, .inr (11, [.ref h1, .ref h2, .ref h3, .ref h4, .ref h5, .int v1, .int v2, .int v3, .int v4, .int v5, .ref h6, .int v6, .ref h7, .ref h8, .ref h9, .int v7, .int v8, .int v9, .int v10, .int v11])), (h1, .inl (cy 0, 64, .inl (upd g 13 (nI ((zn (g 13)) + 1)))))]) rfl dX9_enters_72 (fun H locs hP hD hS => ?_)
            refine lv_aload_n hX hB dX9_enters_73 rfl (lv_at hl 2 rfl) ?_
            refine fg_X9_7 C hP 0 rfl rfl dX9_enters_74 ?_
            refine lv_bipush (v := 13) hX hB dX9_enters_77 (by decide) ?_
            refine z_iald C hP 1 rfl (k := 13) (zlit 13) (by decide) (by decide) (v := nI ((zn (g 13)) + 1)) pk_us dX9_enters_79 ?_
            refine lv_iconst (v := 1) hX hB dX9_enters_80 (by decide) ?_
            refine z_isub (v := nI (((zn (g 13)) + 1) - 1)) C dX9_enters_81 (zi_sub (zi_i ((zn (g 13)) + 1)) (zlit 1) (by omega)) ?_
            refine lv_istore (lv' := [(4, .int (nI (((zn (g 13)) + 1) - 1))), (3, .int (nI p)), (2, .int (g (30 + i))), (0, .ref h0), (1, .int x)]) hX hB dX9_enters_82 hl (by decide) rfl (fun ls hl => ?_)
            have loop_2 : ∀ (n_11 : Nat) (f_12 : Nat → Int32) (k : Nat), (k ≤ 4) → k < n_11 → n_X9_enters_L5 g x i p n_11 f_12 k = n_X9_enters g x i → ∀ (H : Heap) (locs : List Loc), va_P D vwCl [(h0, .inr (11, [.ref h1, .ref h2, .ref h3, .ref h4, .ref h5, .int v1, .int v2, .int v3, .int v4, .int v5, .ref h6, .int v6, .ref h7, .ref h8, .ref h9, .int v7, .int v8, .int v9, .int v10, .int v11])), (h1, .inl (cy 0, 64, .inl (f_12)))] H → va_D A [(h0, .inr (11, [.ref h1, .ref h2, .ref h3, .ref h4, .ref h5, .int v1, .int v2, .int v3, .int v4, .int v5, .ref h6, .int v6, .ref h7, .ref h8, .ref h9, .int v7, .int v8, .int v9, .int v10, .int v11])), (h1, .inl (cy 0, 64, .inl (f_12)))] → va_S A sT.heap H locs → ∀ (ls : Array Slot), lv_has ls 5 [(4, .int (nI k)), (3, .int (nI p)), (2, .int (g (30 + i))), (0, .ref h0), (1, .int x)] → W pG l eN { frames := 1, cells := 0, slots := 0, locals := 23 } sT mI ([.ref h0, .int x] : List Value).toArray below meth cO H locs 0 0 (MQ below (zQv D ((q_X9_enters cy h0 h1 h2 h3 h4 h5 h6 h7 h8 h9 v1 v2 v3 v4 v5 v6 v7 v8 v9 v10 v11) (n_X9_enters g x i)) A) ([.ref h0, .int x] : List Value).toArray sT 0 0 A) (F0 mI 84 ls []) := by
              intro n_11
              induction n_11 with
              | zero =>
                intro f_12 k hb_2_0 hm_2
                exact absurd hm_2 (by omega)
              | succ n_11 ih_13 =>
                intro f_12 k hb_2_0 hm_2 hF_2 H locs hP hD hS ls hl
                refine lv_iload hX hB dX9_enters_84 (lv_at hl 0 rfl) ?_
                refine lv_iload_n hX hB dX9_enters_86 rfl (lv_at hl 1 rfl) ?_
                refine lv_icmp_le (tgt := 106) hX hB dX9_enters_87 (by decide) (fun c_14 => ?_) (fun c_14 => ?_)
                · have c_14n : k ≤ p := (zi_le_iff (zi_i k) (zi_i p) (by omega) (by omega)).mp c_14
                  refine lv_aload_n hX hB dX9_enters_106 rfl (lv_at hl 3 rfl) ?_
                  refine fg_X9_7 C hP 0 rfl rfl dX9_enters_107 ?_
                  refine lv_bipush (v := 46) hX hB dX9_enters_110 (by decide) ?_
                  refine lv_iconst (v := 3) hX hB dX9_enters_112 (by decide) ?_
                  refine lv_iload_n hX hB dX9_enters_113 rfl (lv_at hl 1 rfl) ?_
                  refine z_imul (v := nI (3 * p)) C dX9_enters_114 (zi_mul (zlit 3) (zi_i p)) ?_
                  refine z_iadd (v := nI (46 + (3 * p))) C dX9_enters_115 (zi_add (zlit 46) (zi_i (3 * p))) ?_
                  refine lv_iload_n hX hB dX9_enters_116 rfl (lv_at hl 2 rfl) ?_
                  refine z_iast C hP hD hS 1 rfl (k := 46 + (3 * p)) (zi_i (46 + (3 * p))) (by omega) (by decide) (w' := [(h0, .inr (11, [.ref h1, .ref h2, .ref h3, .ref h4, .ref h5, .int v1, .int v2, .int v3, .int v4, .int v5, .ref h6, .int v6, .ref h7, .ref h8, .ref h9, .int v7, .int v8, .int v9, .int v10, .int v11])), (h1, .inl (cy 0, 64, .inl (upd f_12 (46 + (3 * p)) (g (30 + i)))))]) rfl dX9_enters_117 (fun H locs hP hD hS => ?_)
                  refine lv_aload_n hX hB dX9_enters_118 rfl (lv_at hl 3 rfl) ?_
                  refine fg_X9_7 C hP 0 rfl rfl dX9_enters_119 ?_
                  refine lv_bipush (v := 46) hX hB dX9_enters_122 (by decide) ?_
                  refine lv_iconst (v := 3) hX hB dX9_enters_124 (by decide) ?_
                  refine lv_iload_n hX hB dX9_enters_125 rfl (lv_at hl 1 rfl) ?_
                  refine z_imul (v := nI (3 * p)) C dX9_enters_126 (zi_mul (zlit 3) (zi_i p)) ?_
                  refine z_iadd (v := nI (46 + (3 * p))) C dX9_enters_127 (zi_add (zlit 46) (zi_i (3 * p))) ?_
                  refine lv_iconst (v := 1) hX hB dX9_enters_128 (by decide) ?_
                  refine z_iadd (v := nI ((46 + (3 * p)) + 1)) C dX9_enters_129 (zi_add (zi_i (46 + (3 * p))) (zlit 1)) ?_
                  refine lv_iload_n hX hB dX9_enters_130 rfl (lv_at hl 4 rfl) ?_
                  refine z_iast C hP hD hS 1 rfl (k := (46 + (3 * p)) + 1) (zi_i ((46 + (3 * p)) + 1)) (by omega) (by decide) (w' := [(h0, .inr (11, [.ref h1, .ref h2, .ref h3, .ref h4, .ref h5, .int v1, .int v2, .int v3, .int v4, .int v5, .ref h6, .int v6, .ref h7, .ref h8, .ref h9, .int v7, .int v8, .int v9, .int v10, .int v11])), (h1, .inl (cy 0, 64, .inl (upd (upd f_12 (46 + (3 * p)) (g (30 + i))) ((46 + (3 * p)) + 1) x)))]) rfl dX9_enters_131 (fun H locs hP hD hS => ?_)
                  refine lv_aload_n hX hB dX9_enters_132 rfl (lv_at hl 3 rfl) ?_
                  refine fg_X9_7 C hP 0 rfl rfl dX9_enters_133 ?_
                  refine lv_bipush (v := 46) hX hB dX9_enters_136 (by decide) ?_
                  refine lv_iconst (v := 3) hX hB dX9_enters_138 (by decide) ?_
                  refine lv_iload_n hX hB dX9_enters_139 rfl (lv_at hl 1 rfl) ?_
                  refine z_imul (v := nI (3 * p)) C dX9_enters_140 (zi_mul (zlit 3) (zi_i p)) ?_
                  refine z_iadd (v := nI (46 + (3 * p))) C dX9_enters_141 (zi_add (zlit 46) (zi_i (3 * p))) ?_
                  refine lv_iconst (v := 2) hX hB dX9_enters_142 (by decide) ?_
                  refine z_iadd (v := nI ((46 + (3 * p)) + 2)) C dX9_enters_143 (zi_add (zi_i (46 + (3 * p))) (zlit 2)) ?_
                  refine lv_aload_n hX hB dX9_enters_144 rfl (lv_at hl 3 rfl) ?_
                  refine fg_X9_7 C hP 0 rfl rfl dX9_enters_145 ?_
                  refine lv_iconst (v := 1) hX hB dX9_enters_148 (by decide) ?_
                  refine z_iald C hP 1 rfl (k := 1) (zlit 1) (by decide) (by decide) (v := f_12 1) ((pk_un (by omega)).trans (pk_un (by omega))) dX9_enters_149 ?_
                  refine z_iast C hP hD hS 1 rfl (k := (46 + (3 * p)) + 2) (zi_i ((46 + (3 * p)) + 2)) (by omega) (by decide) (w' := [(h0, .inr (11, [.ref h1, .ref h2, .ref h3, .ref h4, .ref h5, .int v1, .int v2, .int v3, .int v4, .int v5, .ref h6, .int v6, .ref h7, .ref h8, .ref h9, .int v7, .int v8, .int v9, .int v10, .int v11])), (h1, .inl (cy 0, 64, .inl (upd (upd (upd f_12 (46 + (3 * p)) (g (30 + i))) ((46 + (3 * p)) + 1) x) ((46 + (3 * p)) + 2) (f_12 1))))]) rfl dX9_enters_150 (fun H locs hP hD hS => ?_)
                  exact z_vret' (upd (upd (upd f_12 (46 + (3 * p)) (g (30 + i))) ((46 + (3 * p)) + 1) x) ((46 + (3 * p)) + 2) (f_12 1)) (w' := q_X9_enters cy h0 h1 h2 h3 h4 h5 h6 h7 h8 h9 v1 v2 v3 v4 v5 v6 v7 v8 v9 v10 v11) (hF_2.symm.trans (by simp only [n_X9_enters_L5, if_pos c_14])) C hRT hP hD hS (Nat.le_of_ble_eq_true rfl) (Nat.le_of_ble_eq_true rfl) rfl dX9_enters_151
                · have c_14n : ¬ (k ≤ p) := fun z => c_14 ((zi_le_iff (zi_i k) (zi_i p) (by omega) (by omega)).mpr z)
                  refine lv_aload_n hX hB dX9_enters_90 rfl (lv_at hl 3 rfl) ?_
                  refine lv_iload hX hB dX9_enters_91 (lv_at hl 0 rfl) ?_
                  refine lv_iconst (v := 1) hX hB dX9_enters_93 (by decide) ?_
                  refine z_isub (v := nI (k - 1)) C dX9_enters_94 (zi_sub (zi_i k) (zlit 1) (by omega)) ?_
                  refine lv_iload hX hB dX9_enters_95 (lv_at hl 0 rfl) ?_
                  refine z_callVv (isC := [0, 1]) (isR := []) (isO := [0, 1]) (n_X9_putsRecord f_12 (k - 1) k) (q_X9_putsRecord cy h0 h1 h2 h3 h4 h5 h6 h7 h8 h9 v1 v2 v3 v4 v5 v6 v7 v8 v9 v10 v11) (fun o_15 => [(h0, .inr (11, [.ref h1, .ref h2, .ref h3, .ref h4, .ref h5, .int v1, .int v2, .int v3, .int v4, .int v5, .ref h6, .int v6, .ref h7, .ref h8, .ref h9, .int v7, .int v8, .int v9, .int v10, .int v11])), (h1, .inl (cy 0, 64, .inl (o_15)))]) (c_X9_putsRecord l hE D cy h0 h1 h2 h3 h4 h5 h6 h7 h8 h9 v1 v2 v3 v4 v5 v6 v7 v8 v9 v10 v11 f_12 (nI (k - 1)) (k - 1) (nI k) k (zi_i (k - 1)) (by omega) (zi_i k) (by omega)) hE C zs_X9_149 ⟨Nat.le_of_ble_eq_true rfl, Nat.le_of_ble_eq_true rfl⟩ hP hD hS hA hE0 ⟨rfl, rfl, rfl, by decide, rfl, rfl, rfl⟩ 0 rfl rfl rfl rfl hl.1 (Nat.le_of_ble_eq_true rfl) rfl dX9_enters_97 ⟨Nat.le_of_ble_eq_true rfl, Nat.le_of_ble_eq_true rfl⟩ (fun o_15 H locs eo_15 hP hD hS => ?_)
                  refine lv_iinc (v := nI (k - 1)) (lv' := [(4, .int (nI (k - 1))), (3, .int (nI p)), (2, .int (g (30 + i))), (0, .ref h0), (1, .int x)]) hX hB dX9_enters_100 hl (k := 0) rfl (zi_dec2 (zi_i k) (by omega)) (by decide) rfl (fun ls hl => ?_)
                  refine lv_goto (tgt := 84) hX hB dX9_enters_103 (by decide) ?_
                  exact ih_13 o_15 (k - 1) (by omega)  (by omega) (Eq.trans (by simp only [n_X9_enters_L5, if_neg c_14, ← eo_15]) hF_2) _ _ hP hD hS ls (lv_sub hl [0, 1, 2, 3, 4] rfl)
            exact loop_2 5 (upd g 13 (nI ((zn (g 13)) + 1))) (((zn (g 13)) + 1) - 1) (by omega)  (by omega) (Eq.trans (by simp only [n_X9_enters_L1, if_pos c_3, if_neg c_4, if_neg c_5]) hF_0) _ _ hP hD hS ls hl
        · have c_4n : p = 5 := (zi_eq_iff (zi_i p) (zlit 5) (by omega) (by decide)).mp c_4
          exact z_vret' g (w' := q_X9_enters cy h0 h1 h2 h3 h4 h5 h6 h7 h8 h9 v1 v2 v3 v4 v5 v6 v7 v8 v9 v10 v11) (hF_0.symm.trans (by simp only [n_X9_enters_L1, if_pos c_3, if_pos c_4])) C hRT hP hD hS (Nat.le_of_ble_eq_true rfl) (Nat.le_of_ble_eq_true rfl) rfl dX9_enters_50
      · have c_3n : ¬ (p ≤ 0) := fun z => c_3 ((zi_le_iff (zi_i p) (zlit 0) (by omega) (by decide)).mpr z)
        refine lv_aload_n hX hB dX9_enters_22 rfl (lv_at hl 2 rfl) ?_
        refine fg_X9_7 C hP 0 rfl rfl dX9_enters_23 ?_
        refine lv_bipush (v := 46) hX hB dX9_enters_26 (by decide) ?_
        refine lv_iconst (v := 3) hX hB dX9_enters_28 (by decide) ?_
        refine lv_iload_n hX hB dX9_enters_29 rfl (lv_at hl 0 rfl) ?_
        refine z_imul (v := nI (3 * p)) C dX9_enters_30 (zi_mul (zlit 3) (zi_i p)) ?_
        refine z_iadd (v := nI (46 + (3 * p))) C dX9_enters_31 (zi_add (zlit 46) (zi_i (3 * p))) ?_
        refine lv_iconst (v := 3) hX hB dX9_enters_32 (by decide) ?_
        refine z_isub (v := nI ((46 + (3 * p)) - 3)) C dX9_enters_33 (zi_sub (zi_i (46 + (3 * p))) (zlit 3) (by omega)) ?_
        refine z_iald C hP 1 rfl (k := (46 + (3 * p)) - 3) (zi_i ((46 + (3 * p)) - 3)) (by omega) (by decide) (v := g ((46 + (3 * p)) - 3)) rfl dX9_enters_34 ?_
        refine lv_iload_n hX hB dX9_enters_35 rfl (lv_at hl 1 rfl) ?_
        refine lv_icmp_ge (tgt := 45) hX hB dX9_enters_36 (by decide) (fun c_16 => ?_) (fun c_16 => ?_)
        · refine lv_iload_n hX hB dX9_enters_45 rfl (lv_at hl 0 rfl) ?_
          refine lv_iconst (v := 5) hX hB dX9_enters_46 (by decide) ?_
          refine lv_icmp_ne (tgt := 51) hX hB dX9_enters_47 (by decide) (fun c_17 => ?_) (fun c_17 => ?_)
          · have c_17n : ¬ (p = 5) := fun z => c_17 ((zi_eq_iff (zi_i p) (zlit 5) (by omega) (by decide)).mpr z)
            refine lv_aload_n hX hB dX9_enters_51 rfl (lv_at hl 2 rfl) ?_
            refine fg_X9_7 C hP 0 rfl rfl dX9_enters_52 ?_
            refine lv_bipush (v := 13) hX hB dX9_enters_55 (by decide) ?_
            refine z_iald C hP 1 rfl (k := 13) (zlit 13) (by decide) (by decide) (v := g 13) rfl dX9_enters_57 ?_
            refine lv_iconst (v := 5) hX hB dX9_enters_58 (by decide) ?_
            refine lv_icmp_ge (tgt := 73) hX hB dX9_enters_59 (by decide) (fun c_18 => ?_) (fun c_18 => ?_)
            · have c_18n : 5 ≤ zn (g 13) := (zi_le_iff (zlit 5) hq.1 (by decide) (by omega)).mp c_18
              refine lv_aload_n hX hB dX9_enters_73 rfl (lv_at hl 2 rfl) ?_
              refine fg_X9_7 C hP 0 rfl rfl dX9_enters_74 ?_
              refine lv_bipush (v := 13) hX hB dX9_enters_77 (by decide) ?_
              refine z_iald C hP 1 rfl (k := 13) (zlit 13) (by decide) (by decide) (v := g 13) rfl dX9_enters_79 ?_
              refine lv_iconst (v := 1) hX hB dX9_enters_80 (by decide) ?_
              refine z_isub (v := nI ((zn (g 13)) - 1)) C dX9_enters_81 (zi_sub hq.1 (zlit 1) (by omega)) ?_
              refine lv_istore (lv' := [(4, .int (nI ((zn (g 13)) - 1))), (3, .int (nI p)), (2, .int (g (30 + i))), (0, .ref h0), (1, .int x)]) hX hB dX9_enters_82 hl (by decide) rfl (fun ls hl => ?_)
              have loop_3 : ∀ (n_19 : Nat) (f_20 : Nat → Int32) (k : Nat), (k ≤ 4) → k < n_19 → n_X9_enters_L5 g x i p n_19 f_20 k = n_X9_enters g x i → ∀ (H : Heap) (locs : List Loc), va_P D vwCl [(h0, .inr (11, [.ref h1, .ref h2, .ref h3, .ref h4, .ref h5, .int v1, .int v2, .int v3, .int v4, .int v5, .ref h6, .int v6, .ref h7, .ref h8, .ref h9, .int v7, .int v8, .int v9, .int v10, .int v11])), (h1, .inl (cy 0, 64, .inl (f_20)))] H → va_D A [(h0, .inr (11, [.ref h1, .ref h2, .ref h3, .ref h4, .ref h5, .int v1, .int v2, .int v3, .int v4, .int v5, .ref h6, .int v6, .ref h7, .ref h8, .ref h9, .int v7, .int v8, .int v9, .int v10, .int v11])), (h1, .inl (cy 0, 64, .inl (f_20)))] → va_S A sT.heap H locs → ∀ (ls : Array Slot), lv_has ls 5 [(4, .int (nI k)), (3, .int (nI p)), (2, .int (g (30 + i))), (0, .ref h0), (1, .int x)] → W pG l eN { frames := 1, cells := 0, slots := 0, locals := 23 } sT mI ([.ref h0, .int x] : List Value).toArray below meth cO H locs 0 0 (MQ below (zQv D ((q_X9_enters cy h0 h1 h2 h3 h4 h5 h6 h7 h8 h9 v1 v2 v3 v4 v5 v6 v7 v8 v9 v10 v11) (n_X9_enters g x i)) A) ([.ref h0, .int x] : List Value).toArray sT 0 0 A) (F0 mI 84 ls []) := by
                intro n_19
                induction n_19 with
                | zero =>
                  intro f_20 k hb_3_0 hm_3
                  exact absurd hm_3 (by omega)
                | succ n_19 ih_21 =>
                  intro f_20 k hb_3_0 hm_3 hF_3 H locs hP hD hS ls hl
                  refine lv_iload hX hB dX9_enters_84 (lv_at hl 0 rfl) ?_
                  refine lv_iload_n hX hB dX9_enters_86 rfl (lv_at hl 1 rfl) ?_
                  refine lv_icmp_le (tgt := 106) hX hB dX9_enters_87 (by decide) (fun c_22 => ?_) (fun c_22 => ?_)
                  · have c_22n : k ≤ p := (zi_le_iff (zi_i k) (zi_i p) (by omega) (by omega)).mp c_22
                    refine lv_aload_n hX hB dX9_enters_106 rfl (lv_at hl 3 rfl) ?_
                    refine fg_X9_7 C hP 0 rfl rfl dX9_enters_107 ?_
                    refine lv_bipush (v := 46) hX hB dX9_enters_110 (by decide) ?_
                    refine lv_iconst (v := 3) hX hB dX9_enters_112 (by decide) ?_
                    refine lv_iload_n hX hB dX9_enters_113 rfl (lv_at hl 1 rfl) ?_
                    refine z_imul (v := nI (3 * p)) C dX9_enters_114 (zi_mul (zlit 3) (zi_i p)) ?_
                    refine z_iadd (v := nI (46 + (3 * p))) C dX9_enters_115 (zi_add (zlit 46) (zi_i (3 * p))) ?_
                    refine lv_iload_n hX hB dX9_enters_116 rfl (lv_at hl 2 rfl) ?_
                    refine z_iast C hP hD hS 1 rfl (k := 46 + (3 * p)) (zi_i (46 + (3 * p))) (by omega) (by decide) (w' := [(h0, .inr (11, [.ref h1, .ref h2, .ref h3, .ref h4, .ref h5, .int v1, .int v2, .int v3, .int v4, .int v5, .ref h6, .int v6, .ref h7, .ref h8, .ref h9, .int v7, .int v8, .int v9, .int v10, .int v11])), (h1, .inl (cy 0, 64, .inl (upd f_20 (46 + (3 * p)) (g (30 + i)))))]) rfl dX9_enters_117 (fun H locs hP hD hS => ?_)
                    refine lv_aload_n hX hB dX9_enters_118 rfl (lv_at hl 3 rfl) ?_
                    refine fg_X9_7 C hP 0 rfl rfl dX9_enters_119 ?_
                    refine lv_bipush (v := 46) hX hB dX9_enters_122 (by decide) ?_
                    refine lv_iconst (v := 3) hX hB dX9_enters_124 (by decide) ?_
                    refine lv_iload_n hX hB dX9_enters_125 rfl (lv_at hl 1 rfl) ?_
                    refine z_imul (v := nI (3 * p)) C dX9_enters_126 (zi_mul (zlit 3) (zi_i p)) ?_
                    refine z_iadd (v := nI (46 + (3 * p))) C dX9_enters_127 (zi_add (zlit 46) (zi_i (3 * p))) ?_
                    refine lv_iconst (v := 1) hX hB dX9_enters_128 (by decide) ?_
                    refine z_iadd (v := nI ((46 + (3 * p)) + 1)) C dX9_enters_129 (zi_add (zi_i (46 + (3 * p))) (zlit 1)) ?_
                    refine lv_iload_n hX hB dX9_enters_130 rfl (lv_at hl 4 rfl) ?_
                    refine z_iast C hP hD hS 1 rfl (k := (46 + (3 * p)) + 1) (zi_i ((46 + (3 * p)) + 1)) (by omega) (by decide) (w' := [(h0, .inr (11, [.ref h1, .ref h2, .ref h3, .ref h4, .ref h5, .int v1, .int v2, .int v3, .int v4, .int v5, .ref h6, .int v6, .ref h7, .ref h8, .ref h9, .int v7, .int v8, .int v9, .int v10, .int v11])), (h1, .inl (cy 0, 64, .inl (upd (upd f_20 (46 + (3 * p)) (g (30 + i))) ((46 + (3 * p)) + 1) x)))]) rfl dX9_enters_131 (fun H locs hP hD hS => ?_)
                    refine lv_aload_n hX hB dX9_enters_132 rfl (lv_at hl 3 rfl) ?_
                    refine fg_X9_7 C hP 0 rfl rfl dX9_enters_133 ?_
                    refine lv_bipush (v := 46) hX hB dX9_enters_136 (by decide) ?_
                    refine lv_iconst (v := 3) hX hB dX9_enters_138 (by decide) ?_
                    refine lv_iload_n hX hB dX9_enters_139 rfl (lv_at hl 1 rfl) ?_
                    refine z_imul (v := nI (3 * p)) C dX9_enters_140 (zi_mul (zlit 3) (zi_i p)) ?_
                    refine z_iadd (v := nI (46 + (3 * p))) C dX9_enters_141 (zi_add (zlit 46) (zi_i (3 * p))) ?_
                    refine lv_iconst (v := 2) hX hB dX9_enters_142 (by decide) ?_
                    refine z_iadd (v := nI ((46 + (3 * p)) + 2)) C dX9_enters_143 (zi_add (zi_i (46 + (3 * p))) (zlit 2)) ?_
                    refine lv_aload_n hX hB dX9_enters_144 rfl (lv_at hl 3 rfl) ?_
                    refine fg_X9_7 C hP 0 rfl rfl dX9_enters_145 ?_
                    refine lv_iconst (v := 1) hX hB dX9_enters_148 (by decide) ?_
                    refine z_iald C hP 1 rfl (k := 1) (zlit 1) (by decide) (by decide) (v := f_20 1) ((pk_un (by omega)).trans (pk_un (by omega))) dX9_enters_149 ?_
                    refine z_iast C hP hD hS 1 rfl (k := (46 + (3 * p)) + 2) (zi_i ((46 + (3 * p)) + 2)) (by omega) (by decide) (w' := [(h0, .inr (11, [.ref h1, .ref h2, .ref h3, .ref h4, .ref h5, .int v1, .int v2, .int v3, .int v4, .int v5, .ref h6, .int v6, .ref h7, .ref h8, .ref h9, .int v7, .int v8, .int v9, .int v10, .int v11])), (h1, .inl (cy 0, 64, .inl (upd (upd (upd f_20 (46 + (3 * p)) (g (30 + i))) ((46 + (3 * p)) + 1) x) ((46 + (3 * p)) + 2) (f_20 1))))]) rfl dX9_enters_150 (fun H locs hP hD hS => ?_)
                    exact z_vret' (upd (upd (upd f_20 (46 + (3 * p)) (g (30 + i))) ((46 + (3 * p)) + 1) x) ((46 + (3 * p)) + 2) (f_20 1)) (w' := q_X9_enters cy h0 h1 h2 h3 h4 h5 h6 h7 h8 h9 v1 v2 v3 v4 v5 v6 v7 v8 v9 v10 v11) (hF_3.symm.trans (by simp only [n_X9_enters_L5, if_pos c_22])) C hRT hP hD hS (Nat.le_of_ble_eq_true rfl) (Nat.le_of_ble_eq_true rfl) rfl dX9_enters_151
                  · have c_22n : ¬ (k ≤ p) := fun z => c_22 ((zi_le_iff (zi_i k) (zi_i p) (by omega) (by omega)).mpr z)
                    refine lv_aload_n hX hB dX9_enters_90 rfl (lv_at hl 3 rfl) ?_
                    refine lv_iload hX hB dX9_enters_91 (lv_at hl 0 rfl) ?_
                    refine lv_iconst (v := 1) hX hB dX9_enters_93 (by decide) ?_
                    refine z_isub (v := nI (k - 1)) C dX9_enters_94 (zi_sub (zi_i k) (zlit 1) (by omega)) ?_
                    refine lv_iload hX hB dX9_enters_95 (lv_at hl 0 rfl) ?_
                    refine z_callVv (isC := [0, 1]) (isR := []) (isO := [0, 1]) (n_X9_putsRecord f_20 (k - 1) k) (q_X9_putsRecord cy h0 h1 h2 h3 h4 h5 h6 h7 h8 h9 v1 v2 v3 v4 v5 v6 v7 v8 v9 v10 v11) (fun o_23 => [(h0, .inr (11, [.ref h1, .ref h2, .ref h3, .ref h4, .ref h5, .int v1, .int v2, .int v3, .int v4, .int v5, .ref h6, .int v6, .ref h7, .ref h8, .ref h9, .int v7, .int v8, .int v9, .int v10, .int v11])), (h1, .inl (cy 0, 64, .inl (o_23)))]) (c_X9_putsRecord l hE D cy h0 h1 h2 h3 h4 h5 h6 h7 h8 h9 v1 v2 v3 v4 v5 v6 v7 v8 v9 v10 v11 f_20 (nI (k - 1)) (k - 1) (nI k) k (zi_i (k - 1)) (by omega) (zi_i k) (by omega)) hE C zs_X9_149 ⟨Nat.le_of_ble_eq_true rfl, Nat.le_of_ble_eq_true rfl⟩ hP hD hS hA hE0 ⟨rfl, rfl, rfl, by decide, rfl, rfl, rfl⟩ 0 rfl rfl rfl rfl hl.1 (Nat.le_of_ble_eq_true rfl) rfl dX9_enters_97 ⟨Nat.le_of_ble_eq_true rfl, Nat.le_of_ble_eq_true rfl⟩ (fun o_23 H locs eo_23 hP hD hS => ?_)
                    refine lv_iinc (v := nI (k - 1)) (lv' := [(4, .int (nI (k - 1))), (3, .int (nI p)), (2, .int (g (30 + i))), (0, .ref h0), (1, .int x)]) hX hB dX9_enters_100 hl (k := 0) rfl (zi_dec2 (zi_i k) (by omega)) (by decide) rfl (fun ls hl => ?_)
                    refine lv_goto (tgt := 84) hX hB dX9_enters_103 (by decide) ?_
                    exact ih_21 o_23 (k - 1) (by omega)  (by omega) (Eq.trans (by simp only [n_X9_enters_L5, if_neg c_22, ← eo_23]) hF_3) _ _ hP hD hS ls (lv_sub hl [0, 1, 2, 3, 4] rfl)
              exact loop_3 5 g ((zn (g 13)) - 1) (by omega)  (by omega) (Eq.trans (by simp only [n_X9_enters_L1, if_neg c_3, if_pos c_16, if_neg c_17, if_pos c_18]) hF_0) _ _ hP hD hS ls hl
            · have c_18n : ¬ (5 ≤ zn (g 13)) := fun z => c_18 ((zi_le_iff (zlit 5) hq.1 (by decide) (by omega)).mpr z)
              refine lv_aload_n hX hB dX9_enters_62 rfl (lv_at hl 2 rfl) ?_
              refine fg_X9_7 C hP 0 rfl rfl dX9_enters_63 ?_
              refine lv_bipush (v := 13) hX hB dX9_enters_66 (by decide) ?_
              refine lv_dup2_11 hX hB dX9_enters_68 rfl rfl ?_
              refine z_iald C hP 1 rfl (k := 13) (zlit 13) (by decide) (by decide) (v := g 13) rfl dX9_enters_69 ?_
              refine lv_iconst (v := 1) hX hB dX9_enters_70 (by decide) ?_
              refine z_iadd (v := nI ((zn (g 13)) + 1)) C dX9_enters_71 (zi_add hq.1 (zlit 1)) ?_
              refine z_iast C hP hD hS 1 rfl (k := 13) (zlit 13) (by decide) (by decide) (w' := [(h0, .inr (11, [.ref h1, .ref h2, .ref h3, .ref h4, .ref h5, .int v1, .int v2, .int v3, .int v4, .int v5, .ref h6, .int v6, .ref h7, .ref h8, .ref h9, .int v7, .int v8, .int v9, .int v10, .int v11])), (h1, .inl (cy 0, 64, .inl (upd g 13 (nI ((zn (g 13)) + 1)))))]) rfl dX9_enters_72 (fun H locs hP hD hS => ?_)
              refine lv_aload_n hX hB dX9_enters_73 rfl (lv_at hl 2 rfl) ?_
              refine fg_X9_7 C hP 0 rfl rfl dX9_enters_74 ?_
              refine lv_bipush (v := 13) hX hB dX9_enters_77 (by decide) ?_
              refine z_iald C hP 1 rfl (k := 13) (zlit 13) (by decide) (by decide) (v := nI ((zn (g 13)) + 1)) pk_us dX9_enters_79 ?_
              refine lv_iconst (v := 1) hX hB dX9_enters_80 (by decide) ?_
              refine z_isub (v := nI (((zn (g 13)) + 1) - 1)) C dX9_enters_81 (zi_sub (zi_i ((zn (g 13)) + 1)) (zlit 1) (by omega)) ?_
              refine lv_istore (lv' := [(4, .int (nI (((zn (g 13)) + 1) - 1))), (3, .int (nI p)), (2, .int (g (30 + i))), (0, .ref h0), (1, .int x)]) hX hB dX9_enters_82 hl (by decide) rfl (fun ls hl => ?_)
              have loop_4 : ∀ (n_24 : Nat) (f_25 : Nat → Int32) (k : Nat), (k ≤ 4) → k < n_24 → n_X9_enters_L5 g x i p n_24 f_25 k = n_X9_enters g x i → ∀ (H : Heap) (locs : List Loc), va_P D vwCl [(h0, .inr (11, [.ref h1, .ref h2, .ref h3, .ref h4, .ref h5, .int v1, .int v2, .int v3, .int v4, .int v5, .ref h6, .int v6, .ref h7, .ref h8, .ref h9, .int v7, .int v8, .int v9, .int v10, .int v11])), (h1, .inl (cy 0, 64, .inl (f_25)))] H → va_D A [(h0, .inr (11, [.ref h1, .ref h2, .ref h3, .ref h4, .ref h5, .int v1, .int v2, .int v3, .int v4, .int v5, .ref h6, .int v6, .ref h7, .ref h8, .ref h9, .int v7, .int v8, .int v9, .int v10, .int v11])), (h1, .inl (cy 0, 64, .inl (f_25)))] → va_S A sT.heap H locs → ∀ (ls : Array Slot), lv_has ls 5 [(4, .int (nI k)), (3, .int (nI p)), (2, .int (g (30 + i))), (0, .ref h0), (1, .int x)] → W pG l eN { frames := 1, cells := 0, slots := 0, locals := 23 } sT mI ([.ref h0, .int x] : List Value).toArray below meth cO H locs 0 0 (MQ below (zQv D ((q_X9_enters cy h0 h1 h2 h3 h4 h5 h6 h7 h8 h9 v1 v2 v3 v4 v5 v6 v7 v8 v9 v10 v11) (n_X9_enters g x i)) A) ([.ref h0, .int x] : List Value).toArray sT 0 0 A) (F0 mI 84 ls []) := by
                intro n_24
                induction n_24 with
                | zero =>
                  intro f_25 k hb_4_0 hm_4
                  exact absurd hm_4 (by omega)
                | succ n_24 ih_26 =>
                  intro f_25 k hb_4_0 hm_4 hF_4 H locs hP hD hS ls hl
                  refine lv_iload hX hB dX9_enters_84 (lv_at hl 0 rfl) ?_
                  refine lv_iload_n hX hB dX9_enters_86 rfl (lv_at hl 1 rfl) ?_
                  refine lv_icmp_le (tgt := 106) hX hB dX9_enters_87 (by decide) (fun c_27 => ?_) (fun c_27 => ?_)
                  · have c_27n : k ≤ p := (zi_le_iff (zi_i k) (zi_i p) (by omega) (by omega)).mp c_27
                    refine lv_aload_n hX hB dX9_enters_106 rfl (lv_at hl 3 rfl) ?_
                    refine fg_X9_7 C hP 0 rfl rfl dX9_enters_107 ?_
                    refine lv_bipush (v := 46) hX hB dX9_enters_110 (by decide) ?_
                    refine lv_iconst (v := 3) hX hB dX9_enters_112 (by decide) ?_
                    refine lv_iload_n hX hB dX9_enters_113 rfl (lv_at hl 1 rfl) ?_
                    refine z_imul (v := nI (3 * p)) C dX9_enters_114 (zi_mul (zlit 3) (zi_i p)) ?_
                    refine z_iadd (v := nI (46 + (3 * p))) C dX9_enters_115 (zi_add (zlit 46) (zi_i (3 * p))) ?_
                    refine lv_iload_n hX hB dX9_enters_116 rfl (lv_at hl 2 rfl) ?_
                    refine z_iast C hP hD hS 1 rfl (k := 46 + (3 * p)) (zi_i (46 + (3 * p))) (by omega) (by decide) (w' := [(h0, .inr (11, [.ref h1, .ref h2, .ref h3, .ref h4, .ref h5, .int v1, .int v2, .int v3, .int v4, .int v5, .ref h6, .int v6, .ref h7, .ref h8, .ref h9, .int v7, .int v8, .int v9, .int v10, .int v11])), (h1, .inl (cy 0, 64, .inl (upd f_25 (46 + (3 * p)) (g (30 + i)))))]) rfl dX9_enters_117 (fun H locs hP hD hS => ?_)
                    refine lv_aload_n hX hB dX9_enters_118 rfl (lv_at hl 3 rfl) ?_
                    refine fg_X9_7 C hP 0 rfl rfl dX9_enters_119 ?_
                    refine lv_bipush (v := 46) hX hB dX9_enters_122 (by decide) ?_
                    refine lv_iconst (v := 3) hX hB dX9_enters_124 (by decide) ?_
                    refine lv_iload_n hX hB dX9_enters_125 rfl (lv_at hl 1 rfl) ?_
                    refine z_imul (v := nI (3 * p)) C dX9_enters_126 (zi_mul (zlit 3) (zi_i p)) ?_
                    refine z_iadd (v := nI (46 + (3 * p))) C dX9_enters_127 (zi_add (zlit 46) (zi_i (3 * p))) ?_
                    refine lv_iconst (v := 1) hX hB dX9_enters_128 (by decide) ?_
                    refine z_iadd (v := nI ((46 + (3 * p)) + 1)) C dX9_enters_129 (zi_add (zi_i (46 + (3 * p))) (zlit 1)) ?_
                    refine lv_iload_n hX hB dX9_enters_130 rfl (lv_at hl 4 rfl) ?_
                    refine z_iast C hP hD hS 1 rfl (k := (46 + (3 * p)) + 1) (zi_i ((46 + (3 * p)) + 1)) (by omega) (by decide) (w' := [(h0, .inr (11, [.ref h1, .ref h2, .ref h3, .ref h4, .ref h5, .int v1, .int v2, .int v3, .int v4, .int v5, .ref h6, .int v6, .ref h7, .ref h8, .ref h9, .int v7, .int v8, .int v9, .int v10, .int v11])), (h1, .inl (cy 0, 64, .inl (upd (upd f_25 (46 + (3 * p)) (g (30 + i))) ((46 + (3 * p)) + 1) x)))]) rfl dX9_enters_131 (fun H locs hP hD hS => ?_)
                    refine lv_aload_n hX hB dX9_enters_132 rfl (lv_at hl 3 rfl) ?_
                    refine fg_X9_7 C hP 0 rfl rfl dX9_enters_133 ?_
                    refine lv_bipush (v := 46) hX hB dX9_enters_136 (by decide) ?_
                    refine lv_iconst (v := 3) hX hB dX9_enters_138 (by decide) ?_
                    refine lv_iload_n hX hB dX9_enters_139 rfl (lv_at hl 1 rfl) ?_
                    refine z_imul (v := nI (3 * p)) C dX9_enters_140 (zi_mul (zlit 3) (zi_i p)) ?_
                    refine z_iadd (v := nI (46 + (3 * p))) C dX9_enters_141 (zi_add (zlit 46) (zi_i (3 * p))) ?_
                    refine lv_iconst (v := 2) hX hB dX9_enters_142 (by decide) ?_
                    refine z_iadd (v := nI ((46 + (3 * p)) + 2)) C dX9_enters_143 (zi_add (zi_i (46 + (3 * p))) (zlit 2)) ?_
                    refine lv_aload_n hX hB dX9_enters_144 rfl (lv_at hl 3 rfl) ?_
                    refine fg_X9_7 C hP 0 rfl rfl dX9_enters_145 ?_
                    refine lv_iconst (v := 1) hX hB dX9_enters_148 (by decide) ?_
                    refine z_iald C hP 1 rfl (k := 1) (zlit 1) (by decide) (by decide) (v := f_25 1) ((pk_un (by omega)).trans (pk_un (by omega))) dX9_enters_149 ?_
                    refine z_iast C hP hD hS 1 rfl (k := (46 + (3 * p)) + 2) (zi_i ((46 + (3 * p)) + 2)) (by omega) (by decide) (w' := [(h0, .inr (11, [.ref h1, .ref h2, .ref h3, .ref h4, .ref h5, .int v1, .int v2, .int v3, .int v4, .int v5, .ref h6, .int v6, .ref h7, .ref h8, .ref h9, .int v7, .int v8, .int v9, .int v10, .int v11])), (h1, .inl (cy 0, 64, .inl (upd (upd (upd f_25 (46 + (3 * p)) (g (30 + i))) ((46 + (3 * p)) + 1) x) ((46 + (3 * p)) + 2) (f_25 1))))]) rfl dX9_enters_150 (fun H locs hP hD hS => ?_)
                    exact z_vret' (upd (upd (upd f_25 (46 + (3 * p)) (g (30 + i))) ((46 + (3 * p)) + 1) x) ((46 + (3 * p)) + 2) (f_25 1)) (w' := q_X9_enters cy h0 h1 h2 h3 h4 h5 h6 h7 h8 h9 v1 v2 v3 v4 v5 v6 v7 v8 v9 v10 v11) (hF_4.symm.trans (by simp only [n_X9_enters_L5, if_pos c_27])) C hRT hP hD hS (Nat.le_of_ble_eq_true rfl) (Nat.le_of_ble_eq_true rfl) rfl dX9_enters_151
                  · have c_27n : ¬ (k ≤ p) := fun z => c_27 ((zi_le_iff (zi_i k) (zi_i p) (by omega) (by omega)).mpr z)
                    refine lv_aload_n hX hB dX9_enters_90 rfl (lv_at hl 3 rfl) ?_
                    refine lv_iload hX hB dX9_enters_91 (lv_at hl 0 rfl) ?_
                    refine lv_iconst (v := 1) hX hB dX9_enters_93 (by decide) ?_
                    refine z_isub (v := nI (k - 1)) C dX9_enters_94 (zi_sub (zi_i k) (zlit 1) (by omega)) ?_
                    refine lv_iload hX hB dX9_enters_95 (lv_at hl 0 rfl) ?_
                    refine z_callVv (isC := [0, 1]) (isR := []) (isO := [0, 1]) (n_X9_putsRecord f_25 (k - 1) k) (q_X9_putsRecord cy h0 h1 h2 h3 h4 h5 h6 h7 h8 h9 v1 v2 v3 v4 v5 v6 v7 v8 v9 v10 v11) (fun o_28 => [(h0, .inr (11, [.ref h1, .ref h2, .ref h3, .ref h4, .ref h5, .int v1, .int v2, .int v3, .int v4, .int v5, .ref h6, .int v6, .ref h7, .ref h8, .ref h9, .int v7, .int v8, .int v9, .int v10, .int v11])), (h1, .inl (cy 0, 64, .inl (o_28)))]) (c_X9_putsRecord l hE D cy h0 h1 h2 h3 h4 h5 h6 h7 h8 h9 v1 v2 v3 v4 v5 v6 v7 v8 v9 v10 v11 f_25 (nI (k - 1)) (k - 1) (nI k) k (zi_i (k - 1)) (by omega) (zi_i k) (by omega)) hE C zs_X9_149 ⟨Nat.le_of_ble_eq_true rfl, Nat.le_of_ble_eq_true rfl⟩ hP hD hS hA hE0 ⟨rfl, rfl, rfl, by decide, rfl, rfl, rfl⟩ 0 rfl rfl rfl rfl hl.1 (Nat.le_of_ble_eq_true rfl) rfl dX9_enters_97 ⟨Nat.le_of_ble_eq_true rfl, Nat.le_of_ble_eq_true rfl⟩ (fun o_28 H locs eo_28 hP hD hS => ?_)
                    refine lv_iinc (v := nI (k - 1)) (lv' := [(4, .int (nI (k - 1))), (3, .int (nI p)), (2, .int (g (30 + i))), (0, .ref h0), (1, .int x)]) hX hB dX9_enters_100 hl (k := 0) rfl (zi_dec2 (zi_i k) (by omega)) (by decide) rfl (fun ls hl => ?_)
                    refine lv_goto (tgt := 84) hX hB dX9_enters_103 (by decide) ?_
                    exact ih_26 o_28 (k - 1) (by omega)  (by omega) (Eq.trans (by simp only [n_X9_enters_L5, if_neg c_27, ← eo_28]) hF_4) _ _ hP hD hS ls (lv_sub hl [0, 1, 2, 3, 4] rfl)
              exact loop_4 5 (upd g 13 (nI ((zn (g 13)) + 1))) (((zn (g 13)) + 1) - 1) (by omega)  (by omega) (Eq.trans (by simp only [n_X9_enters_L1, if_neg c_3, if_pos c_16, if_neg c_17, if_neg c_18]) hF_0) _ _ hP hD hS ls hl
          · have c_17n : p = 5 := (zi_eq_iff (zi_i p) (zlit 5) (by omega) (by decide)).mp c_17
            exact z_vret' g (w' := q_X9_enters cy h0 h1 h2 h3 h4 h5 h6 h7 h8 h9 v1 v2 v3 v4 v5 v6 v7 v8 v9 v10 v11) (hF_0.symm.trans (by simp only [n_X9_enters_L1, if_neg c_3, if_pos c_16, if_pos c_17])) C hRT hP hD hS (Nat.le_of_ble_eq_true rfl) (Nat.le_of_ble_eq_true rfl) rfl dX9_enters_50
        · refine lv_iinc (v := nI (p - 1)) (lv' := [(3, .int (nI (p - 1))), (2, .int (g (30 + i))), (0, .ref h0), (1, .int x)]) hX hB dX9_enters_39 hl (k := 0) rfl (zi_dec2 (zi_i p) (by omega)) (by decide) rfl (fun ls hl => ?_)
          refine lv_goto (tgt := 18) hX hB dX9_enters_42 (by decide) ?_
          exact ih_2 (p - 1) (by omega)  (by omega) (Eq.trans (by simp only [n_X9_enters_L1, if_neg c_3, if_neg c_16]) hF_0) _ _ hP hD hS ls (lv_sub hl [0, 1, 2, 3] rfl)
  exact loop_0 6 (zn (g 13)) (by omega)  (by omega) (by simp only [n_X9_enters]) _ _ hP hD hS ls (by rw [show nI (zn (g 13)) = g 13 from Eq.symm hq.1]; exact hl)

end M3
