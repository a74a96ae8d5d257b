section M9
def n_X9_cannotHit4 (g : Nat → Int32) (x : Int32) : Int32 :=
  let o_1 := n_X9_in x 0 3
  if o_1 = 0 then
    1
  else
    let o_3 := n_X9_runs g
    if o_3 = 0 then
      2
    else
      0
def q_X9_cannotHit4 (cy : Nat → ClassId) (h0 : Nat) (h1 : Nat) (h2 : Nat) (h3 : Nat) (h4 : Nat) (h5 : Nat) (h6 : Nat) (h7 : Nat) (h8 : Nat) (h9 : Nat) (v1 : Int32) (v2 : Int32) (v3 : Int32) (v4 : Int32) (v5 : Int32) (v6 : Int32) (v7 : Int32) (v8 : Int32) (v9 : Int32) (v10 : Int32) (v11 : Int32) (g : Nat → Int32) (o : Int32) : va_W := [(h0, .inr (11, [.ref h1, .ref h2, .ref h3, .ref h4, .ref h5, .int v1, .int v2, .int v3, .int v4, .int v5, .ref h6, .int v6, .ref h7, .ref h8, .ref h9, .int v7, .int v8, .int v9, .int v10, .int v11])), (h1, .inl (cy 0, 64, .inl (g)))]
set_option maxHeartbeats 4000000 in
set_option maxRecDepth 100000 in
theorem c_X9_cannotHit4 (l : Launch) {E : zEn} (hE : zEok E) (D : zG) (cy : Nat → ClassId) (h0 h1 h2 h3 h4 h5 h6 h7 h8 h9 : Nat) (v1 : Int32) (v2 : Int32) (v3 : Int32) (v4 : Int32) (v5 : Int32) (v6 : Int32) (v7 : Int32) (v8 : Int32) (v9 : Int32) (v10 : Int32) (v11 : Int32) (g : Nat → Int32) (x : Int32)  (sz : Nat) : Met l yX9_cannotHit (zws yX9_cannotHit cX9_cannotHit 3 (some .int)) { frames := 1, cells := 0, slots := 0, locals := 22 } (zPre E D cy [.ref h0, .int x, .int 4] [(h0, .inr (11, [.ref h1, .ref h2, .ref h3, .ref h4, .ref h5, .int v1, .int v2, .int v3, .int v4, .int v5, .ref h6, .int v6, .ref h7, .ref h8, .ref h9, .int v7, .int v8, .int v9, .int v10, .int v11])), (h1, .inl (cy 0, 64, .inl (g)))] sz) (zQi D ((q_X9_cannotHit4 cy h0 h1 h2 h3 h4 h5 h6 h7 h8 h9 v1 v2 v3 v4 v5 v6 v7 v8 v9 v10 v11 g) (n_X9_cannotHit4 g x)) (va_A [(h0, .inr (11, [.ref h1, .ref h2, .ref h3, .ref h4, .ref h5, .int v1, .int v2, .int v3, .int v4, .int v5, .ref h6, .int v6, .ref h7, .ref h8, .ref h9, .int v7, .int v8, .int v9, .int v10, .int v11])), (h1, .inl (cy 0, 64, .inl (g)))] sz) ((n_X9_cannotHit4 g x))) 0 0 (va_A [(h0, .inr (11, [.ref h1, .ref h2, .ref h3, .ref h4, .ref h5, .int v1, .int v2, .int v3, .int v4, .int v5, .ref h6, .int v6, .ref h7, .ref h8, .ref h9, .int v7, .int v8, .int v9, .int v10, .int v11])), (h1, .inl (cy 0, 64, .inl (g)))] sz) := by
  refine z_of (Qc := fun A => zQi D ((q_X9_cannotHit4 cy h0 h1 h2 h3 h4 h5 h6 h7 h8 h9 v1 v2 v3 v4 v5 v6 v7 v8 v9 v10 v11 g) (n_X9_cannotHit4 g x)) A ((n_X9_cannotHit4 g x))) (by decide +kernel) (Nat.le_of_ble_eq_true rfl) rfl ?_
  intro pG eN sT mI below meth cO A ls C hRT hnm hA hP hD hS hE0 hl
  have hX := C.x
  have hB := C.b
  refine lv_iload_n hX hB dX9_cannotHit_0 rfl (lv_at hl 1 rfl) ?_
  refine lv_iconst (v := 0) hX hB dX9_cannotHit_1 (by decide) ?_
  refine lv_iload_n hX hB dX9_cannotHit_2 rfl (lv_at hl 2 rfl) ?_
  refine lv_iconst (v := 1) hX hB dX9_cannotHit_3 (by decide) ?_
  refine z_isub (v := 3) C dX9_cannotHit_4 (by decide) ?_
  refine z_callSi (isC := []) (isR := [0, 1]) (isO := [0, 1]) (n_X9_in x 0 3) (q_X9_in ) (fun o_1 => [(h0, .inr (11, [.ref h1, .ref h2, .ref h3, .ref h4, .ref h5, .int v1, .int v2, .int v3, .int v4, .int v5, .ref h6, .int v6, .ref h7, .ref h8, .ref h9, .int v7, .int v8, .int v9, .int v10, .int v11])), (h1, .inl (cy 0, 64, .inl (g)))]) (fun o_1 => o_1) (c_X9_in l hE D cy  x 0 3 ) hE C zs_X9_127 ⟨Nat.le_of_ble_eq_true rfl, Nat.le_of_ble_eq_true rfl⟩ hP hD hS hA hE0 ⟨rfl, rfl, rfl, by decide, rfl, rfl, rfl⟩ rfl hl.1 (Nat.le_of_ble_eq_true rfl) rfl dX9_cannotHit_5 ⟨Nat.le_of_ble_eq_true rfl, Nat.le_of_ble_eq_true rfl⟩ (fun o_1 H locs eo_1 hP hD hS => ?_)
  refine lv_if_ne (tgt := 15) hX hB dX9_cannotHit_8 (by decide) (fun c_2 => ?_) (fun c_2 => ?_)
  · refine lv_aload_n hX hB dX9_cannotHit_15 rfl (lv_at hl 0 rfl) ?_
    refine z_callVi (isC := [0, 1]) (isR := []) (isO := [0, 1]) (n_X9_runs g) (q_X9_runs cy h0 h1 h2 h3 h4 h5 h6 h7 h8 h9 v1 v2 v3 v4 v5 v6 v7 v8 v9 v10 v11 g) (fun o_3 => [(h0, .inr (11, [.ref h1, .ref h2, .ref h3, .ref h4, .ref h5, .int v1, .int v2, .int v3, .int v4, .int v5, .ref h6, .int v6, .ref h7, .ref h8, .ref h9, .int v7, .int v8, .int v9, .int v10, .int v11])), (h1, .inl (cy 0, 64, .inl (g)))]) (fun o_3 => o_3) (c_X9_runs l hE D cy h0 h1 h2 h3 h4 h5 h6 h7 h8 h9 v1 v2 v3 v4 v5 v6 v7 v8 v9 v10 v11 g ) hE C zs_X9_76 ⟨Nat.le_of_ble_eq_true rfl, Nat.le_of_ble_eq_true rfl⟩ hP hD hS hA hE0 ⟨rfl, rfl, rfl, by decide, rfl, rfl, rfl⟩ 0 rfl rfl rfl rfl hl.1 (Nat.le_of_ble_eq_true rfl) rfl dX9_cannotHit_16 ⟨Nat.le_of_ble_eq_true rfl, Nat.le_of_ble_eq_true rfl⟩ (fun o_3 H locs eo_3 hP hD hS => ?_)
    refine lv_if_eq (tgt := 26) hX hB dX9_cannotHit_19 (by decide) (fun c_4 => ?_) (fun c_4 => ?_)
    · refine lv_iconst (v := 2) hX hB dX9_cannotHit_26 (by decide) ?_
      exact z_iret' 2 (w' := q_X9_cannotHit4 cy h0 h1 h2 h3 h4 h5 h6 h7 h8 h9 v1 v2 v3 v4 v5 v6 v7 v8 v9 v10 v11 g) (r0 := (fun (o : Int32) => o)) (by simp only [n_X9_cannotHit4, ← eo_1, if_neg c_2, ← eo_3, if_pos c_4]) C hRT hP hD hS (Nat.le_of_ble_eq_true rfl) (Nat.le_of_ble_eq_true rfl) rfl rfl dX9_cannotHit_27
    · refine lv_iconst (v := 0) hX hB dX9_cannotHit_22 (by decide) ?_
      refine lv_goto (tgt := 27) hX hB dX9_cannotHit_23 (by decide) ?_
      exact z_iret' 0 (w' := q_X9_cannotHit4 cy h0 h1 h2 h3 h4 h5 h6 h7 h8 h9 v1 v2 v3 v4 v5 v6 v7 v8 v9 v10 v11 g) (r0 := (fun (o : Int32) => o)) (by simp only [n_X9_cannotHit4, ← eo_1, if_neg c_2, ← eo_3, if_neg c_4]) C hRT hP hD hS (Nat.le_of_ble_eq_true rfl) (Nat.le_of_ble_eq_true rfl) rfl rfl dX9_cannotHit_27
  · refine lv_iconst (v := 1) hX hB dX9_cannotHit_11 (by decide) ?_
    refine lv_goto (tgt := 27) hX hB dX9_cannotHit_12 (by decide) ?_
    exact z_iret' 1 (w' := q_X9_cannotHit4 cy h0 h1 h2 h3 h4 h5 h6 h7 h8 h9 v1 v2 v3 v4 v5 v6 v7 v8 v9 v10 v11 g) (r0 := (fun (o : Int32) => o)) (by simp only [n_X9_cannotHit4, ← eo_1, if_pos c_2]) C hRT hP hD hS (Nat.le_of_ble_eq_true rfl) (Nat.le_of_ble_eq_true rfl) rfl rfl dX9_cannotHit_27

def n_X9_cannotHit3 (g : Nat → Int32) (x : Int32) : Int32 :=
  let o_1 := n_X9_in x 0 2
  if o_1 = 0 then
    1
  else
    let o_3 := n_X9_runs g
    if o_3 = 0 then
      2
    else
      0
def q_X9_cannotHit3 (cy : Nat → ClassId) (h0 : Nat) (h1 : Nat) (h2 : Nat) (h3 : Nat) (h4 : Nat) (h5 : Nat) (h6 : Nat) (h7 : Nat) (h8 : Nat) (h9 : Nat) (v1 : Int32) (v2 : Int32) (v3 : Int32) (v4 : Int32) (v5 : Int32) (v6 : Int32) (v7 : Int32) (v8 : Int32) (v9 : Int32) (v10 : Int32) (v11 : Int32) (g : Nat → Int32) (o : Int32) : va_W := [(h0, .inr (11, [.ref h1, .ref h2, .ref h3, .ref h4, .ref h5, .int v1, .int v2, .int v3, .int v4, .int v5, .ref h6, .int v6, .ref h7, .ref h8, .ref h9, .int v7, .int v8, .int v9, .int v10, .int v11])), (h1, .inl (cy 0, 64, .inl (g)))]
set_option maxHeartbeats 4000000 in
set_option maxRecDepth 100000 in
theorem c_X9_cannotHit3 (l : Launch) {E : zEn} (hE : zEok E) (D : zG) (cy : Nat → ClassId) (h0 h1 h2 h3 h4 h5 h6 h7 h8 h9 : Nat) (v1 : Int32) (v2 : Int32) (v3 : Int32) (v4 : Int32) (v5 : Int32) (v6 : Int32) (v7 : Int32) (v8 : Int32) (v9 : Int32) (v10 : Int32) (v11 : Int32) (g : Nat → Int32) (x : Int32)  (sz : Nat) : Met l yX9_cannotHit (zws yX9_cannotHit cX9_cannotHit 3 (some .int)) { frames := 1, cells := 0, slots := 0, locals := 22 } (zPre E D cy [.ref h0, .int x, .int 3] [(h0, .inr (11, [.ref h1, .ref h2, .ref h3, .ref h4, .ref h5, .int v1, .int v2, .int v3, .int v4, .int v5, .ref h6, .int v6, .ref h7, .ref h8, .ref h9, .int v7, .int v8, .int v9, .int v10, .int v11])), (h1, .inl (cy 0, 64, .inl (g)))] sz) (zQi D ((q_X9_cannotHit3 cy h0 h1 h2 h3 h4 h5 h6 h7 h8 h9 v1 v2 v3 v4 v5 v6 v7 v8 v9 v10 v11 g) (n_X9_cannotHit3 g x)) (va_A [(h0, .inr (11, [.ref h1, .ref h2, .ref h3, .ref h4, .ref h5, .int v1, .int v2, .int v3, .int v4, .int v5, .ref h6, .int v6, .ref h7, .ref h8, .ref h9, .int v7, .int v8, .int v9, .int v10, .int v11])), (h1, .inl (cy 0, 64, .inl (g)))] sz) ((n_X9_cannotHit3 g x))) 0 0 (va_A [(h0, .inr (11, [.ref h1, .ref h2, .ref h3, .ref h4, .ref h5, .int v1, .int v2, .int v3, .int v4, .int v5, .ref h6, .int v6, .ref h7, .ref h8, .ref h9, .int v7, .int v8, .int v9, .int v10, .int v11])), (h1, .inl (cy 0, 64, .inl (g)))] sz) := by
  refine z_of (Qc := fun A => zQi D ((q_X9_cannotHit3 cy h0 h1 h2 h3 h4 h5 h6 h7 h8 h9 v1 v2 v3 v4 v5 v6 v7 v8 v9 v10 v11 g) (n_X9_cannotHit3 g x)) A ((n_X9_cannotHit3 g x))) (by decide +kernel) (Nat.le_of_ble_eq_true rfl) rfl ?_
  intro pG eN sT mI below meth cO A ls C hRT hnm hA hP hD hS hE0 hl
  have hX := C.x
  have hB := C.b
  refine lv_iload_n hX hB dX9_cannotHit_0 rfl (lv_at hl 1 rfl) ?_
  refine lv_iconst (v := 0) hX hB dX9_cannotHit_1 (by decide) ?_
  refine lv_iload_n hX hB dX9_cannotHit_2 rfl (lv_at hl 2 rfl) ?_
  refine lv_iconst (v := 1) hX hB dX9_cannotHit_3 (by decide) ?_
  refine z_isub (v := 2) C dX9_cannotHit_4 (by decide) ?_
  refine z_callSi (isC := []) (isR := [0, 1]) (isO := [0, 1]) (n_X9_in x 0 2) (q_X9_in ) (fun o_1 => [(h0, .inr (11, [.ref h1, .ref h2, .ref h3, .ref h4, .ref h5, .int v1, .int v2, .int v3, .int v4, .int v5, .ref h6, .int v6, .ref h7, .ref h8, .ref h9, .int v7, .int v8, .int v9, .int v10, .int v11])), (h1, .inl (cy 0, 64, .inl (g)))]) (fun o_1 => o_1) (c_X9_in l hE D cy  x 0 2 ) hE C zs_X9_127 ⟨Nat.le_of_ble_eq_true rfl, Nat.le_of_ble_eq_true rfl⟩ hP hD hS hA hE0 ⟨rfl, rfl, rfl, by decide, rfl, rfl, rfl⟩ rfl hl.1 (Nat.le_of_ble_eq_true rfl) rfl dX9_cannotHit_5 ⟨Nat.le_of_ble_eq_true rfl, Nat.le_of_ble_eq_true rfl⟩ (fun o_1 H locs eo_1 hP hD hS => ?_)
  refine lv_if_ne (tgt := 15) hX hB dX9_cannotHit_8 (by decide) (fun c_2 => ?_) (fun c_2 => ?_)
  · refine lv_aload_n hX hB dX9_cannotHit_15 rfl (lv_at hl 0 rfl) ?_
    refine z_callVi (isC := [0, 1]) (isR := []) (isO := [0, 1]) (n_X9_runs g) (q_X9_runs cy h0 h1 h2 h3 h4 h5 h6 h7 h8 h9 v1 v2 v3 v4 v5 v6 v7 v8 v9 v10 v11 g) (fun o_3 => [(h0, .inr (11, [.ref h1, .ref h2, .ref h3, .ref h4, .ref h5, .int v1, .int v2, .int v3, .int v4, .int v5, .ref h6, .int v6, .ref h7, .ref h8, .ref h9, .int v7, .int v8, .int v9, .int v10, .int v11])), (h1, .inl (cy 0, 64, .inl (g)))]) (fun o_3 => o_3) (c_X9_runs l hE D cy h0 h1 h2 h3 h4 h5 h6 h7 h8 h9 v1 v2 v3 v4 v5 v6 v7 v8 v9 v10 v11 g ) hE C zs_X9_76 ⟨Nat.le_of_ble_eq_true rfl, Nat.le_of_ble_eq_true rfl⟩ hP hD hS hA hE0 ⟨rfl, rfl, rfl, by decide, rfl, rfl, rfl⟩ 0 rfl rfl rfl rfl hl.1 (Nat.le_of_ble_eq_true rfl) rfl dX9_cannotHit_16 ⟨Nat.le_of_ble_eq_true rfl, Nat.le_of_ble_eq_true rfl⟩ (fun o_3 H locs eo_3 hP hD hS => ?_)
    refine lv_if_eq (tgt := 26) hX hB dX9_cannotHit_19 (by decide) (fun c_4 => ?_) (fun c_4 => ?_)
    · refine lv_iconst (v := 2) hX hB dX9_cannotHit_26 (by decide) ?_
      exact z_iret' 2 (w' := q_X9_cannotHit3 cy h0 h1 h2 h3 h4 h5 h6 h7 h8 h9 v1 v2 v3 v4 v5 v6 v7 v8 v9 v10 v11 g) (r0 := (fun (o : Int32) => o)) (by simp only [n_X9_cannotHit3, ← eo_1, if_neg c_2, ← eo_3, if_pos c_4]) C hRT hP hD hS (Nat.le_of_ble_eq_true rfl) (Nat.le_of_ble_eq_true rfl) rfl rfl dX9_cannotHit_27
    · refine lv_iconst (v := 0) hX hB dX9_cannotHit_22 (by decide) ?_
      refine lv_goto (tgt := 27) hX hB dX9_cannotHit_23 (by decide) ?_
      exact z_iret' 0 (w' := q_X9_cannotHit3 cy h0 h1 h2 h3 h4 h5 h6 h7 h8 h9 v1 v2 v3 v4 v5 v6 v7 v8 v9 v10 v11 g) (r0 := (fun (o : Int32) => o)) (by simp only [n_X9_cannotHit3, ← eo_1, if_neg c_2, ← eo_3, if_neg c_4]) C hRT hP hD hS (Nat.le_of_ble_eq_true rfl) (Nat.le_of_ble_eq_true rfl) rfl rfl dX9_cannotHit_27
  · refine lv_iconst (v := 1) hX hB dX9_cannotHit_11 (by decide) ?_
    refine lv_goto (tgt := 27) hX hB dX9_cannotHit_12 (by decide) ?_
    exact z_iret' 1 (w' := q_X9_cannotHit3 cy h0 h1 h2 h3 h4 h5 h6 h7 h8 h9 v1 v2 v3 v4 v5 v6 v7 v8 v9 v10 v11 g) (r0 := (fun (o : Int32) => o)) (by simp only [n_X9_cannotHit3, ← eo_1, if_pos c_2]) C hRT hP hD hS (Nat.le_of_ble_eq_true rfl) (Nat.le_of_ble_eq_true rfl) rfl rfl dX9_cannotHit_27

def n_X9_cannotHit5 (g : Nat → Int32) (x : Int32) : Int32 :=
  let o_1 := n_X9_in x 0 4
  if o_1 = 0 then
    1
  else
    let o_3 := n_X9_runs g
    if o_3 = 0 then
      2
    else
      0
def q_X9_cannotHit5 (cy : Nat → ClassId) (h0 : Nat) (h1 : Nat) (h2 : Nat) (h3 : Nat) (h4 : Nat) (h5 : Nat) (h6 : Nat) (h7 : Nat) (h8 : Nat) (h9 : Nat) (v1 : Int32) (v2 : Int32) (v3 : Int32) (v4 : Int32) (v5 : Int32) (v6 : Int32) (v7 : Int32) (v8 : Int32) (v9 : Int32) (v10 : Int32) (v11 : Int32) (g : Nat → Int32) (o : Int32) : va_W := [(h0, .inr (11, [.ref h1, .ref h2, .ref h3, .ref h4, .ref h5, .int v1, .int v2, .int v3, .int v4, .int v5, .ref h6, .int v6, .ref h7, .ref h8, .ref h9, .int v7, .int v8, .int v9, .int v10, .int v11])), (h1, .inl (cy 0, 64, .inl (g)))]
set_option maxHeartbeats 4000000 in
set_option maxRecDepth 100000 in
theorem c_X9_cannotHit5 (l : Launch) {E : zEn} (hE : zEok E) (D : zG) (cy : Nat → ClassId) (h0 h1 h2 h3 h4 h5 h6 h7 h8 h9 : Nat) (v1 : Int32) (v2 : Int32) (v3 : Int32) (v4 : Int32) (v5 : Int32) (v6 : Int32) (v7 : Int32) (v8 : Int32) (v9 : Int32) (v10 : Int32) (v11 : Int32) (g : Nat → Int32) (x : Int32)  (sz : Nat) : Met l yX9_cannotHit (zws yX9_cannotHit cX9_cannotHit 3 (some .int)) { frames := 1, cells := 0, slots := 0, locals := 22 } (zPre E D cy [.ref h0, .int x, .int 5] [(h0, .inr (11, [.ref h1, .ref h2, .ref h3, .ref h4, .ref h5, .int v1, .int v2, .int v3, .int v4, .int v5, .ref h6, .int v6, .ref h7, .ref h8, .ref h9, .int v7, .int v8, .int v9, .int v10, .int v11])), (h1, .inl (cy 0, 64, .inl (g)))] sz) (zQi D ((q_X9_cannotHit5 cy h0 h1 h2 h3 h4 h5 h6 h7 h8 h9 v1 v2 v3 v4 v5 v6 v7 v8 v9 v10 v11 g) (n_X9_cannotHit5 g x)) (va_A [(h0, .inr (11, [.ref h1, .ref h2, .ref h3, .ref h4, .ref h5, .int v1, .int v2, .int v3, .int v4, .int v5, .ref h6, .int v6, .ref h7, .ref h8, .ref h9, .int v7, .int v8, .int v9, .int v10, .int v11])), (h1, .inl (cy 0, 64, .inl (g)))] sz) ((n_X9_cannotHit5 g x))) 0 0 (va_A [(h0, .inr (11, [.ref h1, .ref h2, .ref h3, .ref h4, .ref h5, .int v1, .int v2, .int v3, .int v4, .int v5, .ref h6, .int v6, .ref h7, .ref h8, .ref h9, .int v7, .int v8, .int v9, .int v10, .int v11])), (h1, .inl (cy 0, 64, .inl (g)))] sz) := by
  refine z_of (Qc := fun A => zQi D ((q_X9_cannotHit5 cy h0 h1 h2 h3 h4 h5 h6 h7 h8 h9 v1 v2 v3 v4 v5 v6 v7 v8 v9 v10 v11 g) (n_X9_cannotHit5 g x)) A ((n_X9_cannotHit5 g x))) (by decide +kernel) (Nat.le_of_ble_eq_true rfl) rfl ?_
  intro pG eN sT mI below meth cO A ls C hRT hnm hA hP hD hS hE0 hl
  have hX := C.x
  have hB := C.b
  refine lv_iload_n hX hB dX9_cannotHit_0 rfl (lv_at hl 1 rfl) ?_
  refine lv_iconst (v := 0) hX hB dX9_cannotHit_1 (by decide) ?_
  refine lv_iload_n hX hB dX9_cannotHit_2 rfl (lv_at hl 2 rfl) ?_
  refine lv_iconst (v := 1) hX hB dX9_cannotHit_3 (by decide) ?_
  refine z_isub (v := 4) C dX9_cannotHit_4 (by decide) ?_
  refine z_callSi (isC := []) (isR := [0, 1]) (isO := [0, 1]) (n_X9_in x 0 4) (q_X9_in ) (fun o_1 => [(h0, .inr (11, [.ref h1, .ref h2, .ref h3, .ref h4, .ref h5, .int v1, .int v2, .int v3, .int v4, .int v5, .ref h6, .int v6, .ref h7, .ref h8, .ref h9, .int v7, .int v8, .int v9, .int v10, .int v11])), (h1, .inl (cy 0, 64, .inl (g)))]) (fun o_1 => o_1) (c_X9_in l hE D cy  x 0 4 ) hE C zs_X9_127 ⟨Nat.le_of_ble_eq_true rfl, Nat.le_of_ble_eq_true rfl⟩ hP hD hS hA hE0 ⟨rfl, rfl, rfl, by decide, rfl, rfl, rfl⟩ rfl hl.1 (Nat.le_of_ble_eq_true rfl) rfl dX9_cannotHit_5 ⟨Nat.le_of_ble_eq_true rfl, Nat.le_of_ble_eq_true rfl⟩ (fun o_1 H locs eo_1 hP hD hS => ?_)
  refine lv_if_ne (tgt := 15) hX hB dX9_cannotHit_8 (by decide) (fun c_2 => ?_) (fun c_2 => ?_)
  · refine lv_aload_n hX hB dX9_cannotHit_15 rfl (lv_at hl 0 rfl) ?_
    refine z_callVi (isC := [0, 1]) (isR := []) (isO := [0, 1]) (n_X9_runs g) (q_X9_runs cy h0 h1 h2 h3 h4 h5 h6 h7 h8 h9 v1 v2 v3 v4 v5 v6 v7 v8 v9 v10 v11 g) (fun o_3 => [(h0, .inr (11, [.ref h1, .ref h2, .ref h3, .ref h4, .ref h5, .int v1, .int v2, .int v3, .int v4, .int v5, .ref h6, .int v6, .ref h7, .ref h8, .ref h9, .int v7, .int v8, .int v9, .int v10, .int v11])), (h1, .inl (cy 0, 64, .inl (g)))]) (fun o_3 => o_3) (c_X9_runs l hE D cy h0 h1 h2 h3 h4 h5 h6 h7 h8 h9 v1 v2 v3 v4 v5 v6 v7 v8 v9 v10 v11 g ) hE C zs_X9_76 ⟨Nat.le_of_ble_eq_true rfl, Nat.le_of_ble_eq_true rfl⟩ hP hD hS hA hE0 ⟨rfl, rfl, rfl, by decide, rfl, rfl, rfl⟩ 0 rfl rfl rfl rfl hl.1 (Nat.le_of_ble_eq_true rfl) rfl dX9_cannotHit_16 ⟨Nat.le_of_ble_eq_true rfl, Nat.le_of_ble_eq_true rfl⟩ (fun o_3 H locs eo_3 hP hD hS => ?_)
    refine lv_if_eq (tgt := 26) hX hB dX9_cannotHit_19 (by decide) (fun c_4 => ?_) (fun c_4 => ?_)
    · refine lv_iconst (v := 2) hX hB dX9_cannotHit_26 (by decide) ?_
      exact z_iret' 2 (w' := q_X9_cannotHit5 cy h0 h1 h2 h3 h4 h5 h6 h7 h8 h9 v1 v2 v3 v4 v5 v6 v7 v8 v9 v10 v11 g) (r0 := (fun (o : Int32) => o)) (by simp only [n_X9_cannotHit5, ← eo_1, if_neg c_2, ← eo_3, if_pos c_4]) C hRT hP hD hS (Nat.le_of_ble_eq_true rfl) (Nat.le_of_ble_eq_true rfl) rfl rfl dX9_cannotHit_27
    · refine lv_iconst (v := 0) hX hB dX9_cannotHit_22 (by decide) ?_
      refine lv_goto (tgt := 27) hX hB dX9_cannotHit_23 (by decide) ?_
      exact z_iret' 0 (w' := q_X9_cannotHit5 cy h0 h1 h2 h3 h4 h5 h6 h7 h8 h9 v1 v2 v3 v4 v5 v6 v7 v8 v9 v10 v11 g) (r0 := (fun (o : Int32) => o)) (by simp only [n_X9_cannotHit5, ← eo_1, if_neg c_2, ← eo_3, if_neg c_4]) C hRT hP hD hS (Nat.le_of_ble_eq_true rfl) (Nat.le_of_ble_eq_true rfl) rfl rfl dX9_cannotHit_27
  · refine lv_iconst (v := 1) hX hB dX9_cannotHit_11 (by decide) ?_
    refine lv_goto (tgt := 27) hX hB dX9_cannotHit_12 (by decide) ?_
    exact z_iret' 1 (w' := q_X9_cannotHit5 cy h0 h1 h2 h3 h4 h5 h6 h7 h8 h9 v1 v2 v3 v4 v5 v6 v7 v8 v9 v10 v11 g) (r0 := (fun (o : Int32) => o)) (by simp only [n_X9_cannotHit5, ← eo_1, if_pos c_2]) C hRT hP hD hS (Nat.le_of_ble_eq_true rfl) (Nat.le_of_ble_eq_true rfl) rfl rfl dX9_cannotHit_27

def n_X9_cannotNudge (g : Nat → Int32) (x : Int32) : Int32 :=
  let o_1 := n_X9_in x 1 3
  if o_1 = 0 then
    1
  else
    let o_3 := n_X9_runs g
    if o_3 = 0 then
      2
    else
      0
def q_X9_cannotNudge (cy : Nat → ClassId) (h0 : Nat) (h1 : Nat) (h2 : Nat) (h3 : Nat) (h4 : Nat) (h5 : Nat) (h6 : Nat) (h7 : Nat) (h8 : Nat) (h9 : Nat) (v1 : Int32) (v2 : Int32) (v3 : Int32) (v4 : Int32) (v5 : Int32) (v6 : Int32) (v7 : Int32) (v8 : Int32) (v9 : Int32) (v10 : Int32) (v11 : Int32) (g : Nat → Int32) (o : Int32) : va_W := [(h0, .inr (11, [.ref h1, .ref h2, .ref h3, .ref h4, .ref h5, .int v1, .int v2, .int v3, .int v4, .int v5, .ref h6, .int v6, .ref h7, .ref h8, .ref h9, .int v7, .int v8, .int v9, .int v10, .int v11])), (h1, .inl (cy 0, 64, .inl (g)))]
set_option maxHeartbeats 4000000 in
set_option maxRecDepth 100000 in
theorem c_X9_cannotNudge (l : Launch) {E : zEn} (hE : zEok E) (D : zG) (cy : Nat → ClassId) (h0 h1 h2 h3 h4 h5 h6 h7 h8 h9 : Nat) (v1 : Int32) (v2 : Int32) (v3 : Int32) (v4 : Int32) (v5 : Int32) (v6 : Int32) (v7 : Int32) (v8 : Int32) (v9 : Int32) (v10 : Int32) (v11 : Int32) (g : Nat → Int32) (x : Int32)  (sz : Nat) : Met l yX9_cannotNudge (zws yX9_cannotNudge cX9_cannotNudge 2 (some .int)) { frames := 1, cells := 0, slots := 0, locals := 22 } (zPre E D cy [.ref h0, .int x] [(h0, .inr (11, [.ref h1, .ref h2, .ref h3, .ref h4, .ref h5, .int v1, .int v2, .int v3, .int v4, .int v5, .ref h6, .int v6, .ref h7, .ref h8, .ref h9, .int v7, .int v8, .int v9, .int v10, .int v11])), (h1, .inl (cy 0, 64, .inl (g)))] sz) (zQi D ((q_X9_cannotNudge cy h0 h1 h2 h3 h4 h5 h6 h7 h8 h9 v1 v2 v3 v4 v5 v6 v7 v8 v9 v10 v11 g) (n_X9_cannotNudge g x)) (va_A [(h0, .inr (11, [.ref h1, .ref h2, .ref h3, .ref h4, .ref h5, .int v1, .int v2, .int v3, .int v4, .int v5, .ref h6, .int v6, .ref h7, .ref h8, .ref h9, .int v7, .int v8, .int v9, .int v10, .int v11])), (h1, .inl (cy 0, 64, .inl (g)))] sz) ((n_X9_cannotNudge g x))) 0 0 (va_A [(h0, .inr (11, [.ref h1, .ref h2, .ref h3, .ref h4, .ref h5, .int v1, .int v2, .int v3, .int v4, .int v5, .ref h6, .int v6, .ref h7, .ref h8, .ref h9, .int v7, .int v8, .int v9, .int v10, .int v11])), (h1, .inl (cy 0, 64, .inl (g)))] sz) := by
  refine z_of (Qc := fun A => zQi D ((q_X9_cannotNudge cy h0 h1 h2 h3 h4 h5 h6 h7 h8 h9 v1 v2 v3 v4 v5 v6 v7 v8 v9 v10 v11 g) (n_X9_cannotNudge g x)) A ((n_X9_cannotNudge g x))) (by decide +kernel) (Nat.le_of_ble_eq_true rfl) rfl ?_
  intro pG eN sT mI below meth cO A ls C hRT hnm hA hP hD hS hE0 hl
  have hX := C.x
  have hB := C.b
  refine lv_iload_n hX hB dX9_cannotNudge_0 rfl (lv_at hl 1 rfl) ?_
  refine lv_iconst (v := 1) hX hB dX9_cannotNudge_1 (by decide) ?_
  refine lv_iconst (v := 3) hX hB dX9_cannotNudge_2 (by decide) ?_
  refine z_callSi (isC := []) (isR := [0, 1]) (isO := [0, 1]) (n_X9_in x 1 3) (q_X9_in ) (fun o_1 => [(h0, .inr (11, [.ref h1, .ref h2, .ref h3, .ref h4, .ref h5, .int v1, .int v2, .int v3, .int v4, .int v5, .ref h6, .int v6, .ref h7, .ref h8, .ref h9, .int v7, .int v8, .int v9, .int v10, .int v11])), (h1, .inl (cy 0, 64, .inl (g)))]) (fun o_1 => o_1) (c_X9_in l hE D cy  x 1 3 ) hE C zs_X9_127 ⟨Nat.le_of_ble_eq_true rfl, Nat.le_of_ble_eq_true rfl⟩ hP hD hS hA hE0 ⟨rfl, rfl, rfl, by decide, rfl, rfl, rfl⟩ rfl hl.1 (Nat.le_of_ble_eq_true rfl) rfl dX9_cannotNudge_3 ⟨Nat.le_of_ble_eq_true rfl, Nat.le_of_ble_eq_true rfl⟩ (fun o_1 H locs eo_1 hP hD hS => ?_)
  refine lv_if_ne (tgt := 13) hX hB dX9_cannotNudge_6 (by decide) (fun c_2 => ?_) (fun c_2 => ?_)
  · refine lv_aload_n hX hB dX9_cannotNudge_13 rfl (lv_at hl 0 rfl) ?_
    refine z_callVi (isC := [0, 1]) (isR := []) (isO := [0, 1]) (n_X9_runs g) (q_X9_runs cy h0 h1 h2 h3 h4 h5 h6 h7 h8 h9 v1 v2 v3 v4 v5 v6 v7 v8 v9 v10 v11 g) (fun o_3 => [(h0, .inr (11, [.ref h1, .ref h2, .ref h3, .ref h4, .ref h5, .int v1, .int v2, .int v3, .int v4, .int v5, .ref h6, .int v6, .ref h7, .ref h8, .ref h9, .int v7, .int v8, .int v9, .int v10, .int v11])), (h1, .inl (cy 0, 64, .inl (g)))]) (fun o_3 => o_3) (c_X9_runs l hE D cy h0 h1 h2 h3 h4 h5 h6 h7 h8 h9 v1 v2 v3 v4 v5 v6 v7 v8 v9 v10 v11 g ) hE C zs_X9_76 ⟨Nat.le_of_ble_eq_true rfl, Nat.le_of_ble_eq_true rfl⟩ hP hD hS hA hE0 ⟨rfl, rfl, rfl, by decide, rfl, rfl, rfl⟩ 0 rfl rfl rfl rfl hl.1 (Nat.le_of_ble_eq_true rfl) rfl dX9_cannotNudge_14 ⟨Nat.le_of_ble_eq_true rfl, Nat.le_of_ble_eq_true rfl⟩ (fun o_3 H locs eo_3 hP hD hS => ?_)
    refine lv_if_eq (tgt := 24) hX hB dX9_cannotNudge_17 (by decide) (fun c_4 => ?_) (fun c_4 => ?_)
    · refine lv_iconst (v := 2) hX hB dX9_cannotNudge_24 (by decide) ?_
      exact z_iret' 2 (w' := q_X9_cannotNudge cy h0 h1 h2 h3 h4 h5 h6 h7 h8 h9 v1 v2 v3 v4 v5 v6 v7 v8 v9 v10 v11 g) (r0 := (fun (o : Int32) => o)) (by simp only [n_X9_cannotNudge, ← eo_1, if_neg c_2, ← eo_3, if_pos c_4]) C hRT hP hD hS (Nat.le_of_ble_eq_true rfl) (Nat.le_of_ble_eq_true rfl) rfl rfl dX9_cannotNudge_25
    · refine lv_iconst (v := 0) hX hB dX9_cannotNudge_20 (by decide) ?_
      refine lv_goto (tgt := 25) hX hB dX9_cannotNudge_21 (by decide) ?_
      exact z_iret' 0 (w' := q_X9_cannotNudge cy h0 h1 h2 h3 h4 h5 h6 h7 h8 h9 v1 v2 v3 v4 v5 v6 v7 v8 v9 v10 v11 g) (r0 := (fun (o : Int32) => o)) (by simp only [n_X9_cannotNudge, ← eo_1, if_neg c_2, ← eo_3, if_neg c_4]) C hRT hP hD hS (Nat.le_of_ble_eq_true rfl) (Nat.le_of_ble_eq_true rfl) rfl rfl dX9_cannotNudge_25
  · refine lv_iconst (v := 1) hX hB dX9_cannotNudge_9 (by decide) ?_
    refine lv_goto (tgt := 25) hX hB dX9_cannotNudge_10 (by decide) ?_
    exact z_iret' 1 (w' := q_X9_cannotNudge cy h0 h1 h2 h3 h4 h5 h6 h7 h8 h9 v1 v2 v3 v4 v5 v6 v7 v8 v9 v10 v11 g) (r0 := (fun (o : Int32) => o)) (by simp only [n_X9_cannotNudge, ← eo_1, if_pos c_2]) C hRT hP hD hS (Nat.le_of_ble_eq_true rfl) (Nat.le_of_ble_eq_true rfl) rfl rfl dX9_cannotNudge_25

def n_X9_cannotAdd (g : Nat → Int32) : Int32 :=
  let o_1 := n_X9_runs g
  if o_1 = 0 then
    if g 2 = 4 then
      1
    else
      0
  else
    1
def q_X9_cannotAdd (cy : Nat → ClassId) (h0 : Nat) (h1 : Nat) (h2 : Nat) (h3 : Nat) (h4 : Nat) (h5 : Nat) (h6 : Nat) (h7 : Nat) (h8 : Nat) (h9 : Nat) (v1 : Int32) (v2 : Int32) (v3 : Int32) (v4 : Int32) (v5 : Int32) (v6 : Int32) (v7 : Int32) (v8 : Int32) (v9 : Int32) (v10 : Int32) (v11 : Int32) (g : Nat → Int32) (o : Int32) : va_W := [(h0, .inr (11, [.ref h1, .ref h2, .ref h3, .ref h4, .ref h5, .int v1, .int v2, .int v3, .int v4, .int v5, .ref h6, .int v6, .ref h7, .ref h8, .ref h9, .int v7, .int v8, .int v9, .int v10, .int v11])), (h1, .inl (cy 0, 64, .inl (g)))]
set_option maxHeartbeats 4000000 in
set_option maxRecDepth 100000 in
theorem c_X9_cannotAdd (l : Launch) {E : zEn} (hE : zEok E) (D : zG) (cy : Nat → ClassId) (h0 h1 h2 h3 h4 h5 h6 h7 h8 h9 : Nat) (v1 : Int32) (v2 : Int32) (v3 : Int32) (v4 : Int32) (v5 : Int32) (v6 : Int32) (v7 : Int32) (v8 : Int32) (v9 : Int32) (v10 : Int32) (v11 : Int32) (g : Nat → Int32)  (sz : Nat) : Met l yX9_cannotAdd (zws yX9_cannotAdd cX9_cannotAdd 1 (some .int)) { frames := 1, cells := 0, slots := 0, locals := 20 } (zPre E D cy [.ref h0] [(h0, .inr (11, [.ref h1, .ref h2, .ref h3, .ref h4, .ref h5, .int v1, .int v2, .int v3, .int v4, .int v5, .ref h6, .int v6, .ref h7, .ref h8, .ref h9, .int v7, .int v8, .int v9, .int v10, .int v11])), (h1, .inl (cy 0, 64, .inl (g)))] sz) (zQi D ((q_X9_cannotAdd cy h0 h1 h2 h3 h4 h5 h6 h7 h8 h9 v1 v2 v3 v4 v5 v6 v7 v8 v9 v10 v11 g) (n_X9_cannotAdd g)) (va_A [(h0, .inr (11, [.ref h1, .ref h2, .ref h3, .ref h4, .ref h5, .int v1, .int v2, .int v3, .int v4, .int v5, .ref h6, .int v6, .ref h7, .ref h8, .ref h9, .int v7, .int v8, .int v9, .int v10, .int v11])), (h1, .inl (cy 0, 64, .inl (g)))] sz) ((n_X9_cannotAdd g))) 0 0 (va_A [(h0, .inr (11, [.ref h1, .ref h2, .ref h3, .ref h4, .ref h5, .int v1, .int v2, .int v3, .int v4, .int v5, .ref h6, .int v6, .ref h7, .ref h8, .ref h9, .int v7, .int v8, .int v9, .int v10, .int v11])), (h1, .inl (cy 0, 64, .inl (g)))] sz) := by
  refine z_of (Qc := fun A => zQi D ((q_X9_cannotAdd cy h0 h1 h2 h3 h4 h5 h6 h7 h8 h9 v1 v2 v3 v4 v5 v6 v7 v8 v9 v10 v11 g) (n_X9_cannotAdd g)) A ((n_X9_cannotAdd g))) (by decide +kernel) (Nat.le_of_ble_eq_true rfl) rfl ?_
  intro pG eN sT mI below meth cO A ls C hRT hnm hA hP hD hS hE0 hl
  have hX := C.x
  have hB := C.b
  refine lv_aload_n hX hB dX9_cannotAdd_0 rfl (lv_at hl 0 rfl) ?_
  refine z_callVi (isC := [0, 1]) (isR := []) (isO := [0, 1]) (n_X9_runs g) (q_X9_runs cy h0 h1 h2 h3 h4 h5 h6 h7 h8 h9 v1 v2 v3 v4 v5 v6 v7 v8 v9 v10 v11 g) (fun o_1 => [(h0, .inr (11, [.ref h1, .ref h2, .ref h3, .ref h4, .ref h5, .int v1, .int v2, .int v3, .int v4, .int v5, .ref h6, .int v6, .ref h7, .ref h8, .ref h9, .int v7, .int v8, .int v9, .int v10, .int v11])), (h1, .inl (cy 0, 64, .inl (g)))]) (fun o_1 => o_1) (c_X9_runs l hE D cy h0 h1 h2 h3 h4 h5 h6 h7 h8 h9 v1 v2 v3 v4 v5 v6 v7 v8 v9 v10 v11 g ) hE C zs_X9_76 ⟨Nat.le_of_ble_eq_true rfl, Nat.le_of_ble_eq_true rfl⟩ hP hD hS hA hE0 ⟨rfl, rfl, rfl, by decide, rfl, rfl, rfl⟩ 0 rfl rfl rfl rfl hl.1 (Nat.le_of_ble_eq_true rfl) rfl dX9_cannotAdd_1 ⟨Nat.le_of_ble_eq_true rfl, Nat.le_of_ble_eq_true rfl⟩ (fun o_1 H locs eo_1 hP hD hS => ?_)
  refine lv_if_ne (tgt := 17) hX hB dX9_cannotAdd_4 (by decide) (fun c_2 => ?_) (fun c_2 => ?_)
  · refine lv_iconst (v := 1) hX hB dX9_cannotAdd_17 (by decide) ?_
    refine lv_goto (tgt := 22) hX hB dX9_cannotAdd_18 (by decide) ?_
    exact z_iret' 1 (w' := q_X9_cannotAdd cy h0 h1 h2 h3 h4 h5 h6 h7 h8 h9 v1 v2 v3 v4 v5 v6 v7 v8 v9 v10 v11 g) (r0 := (fun (o : Int32) => o)) (by simp only [n_X9_cannotAdd, ← eo_1, if_neg c_2]) C hRT hP hD hS (Nat.le_of_ble_eq_true rfl) (Nat.le_of_ble_eq_true rfl) rfl rfl dX9_cannotAdd_22
  · refine lv_aload_n hX hB dX9_cannotAdd_7 rfl (lv_at hl 0 rfl) ?_
    refine fg_X9_7 C hP 0 rfl rfl dX9_cannotAdd_8 ?_
    refine lv_iconst (v := 2) hX hB dX9_cannotAdd_11 (by decide) ?_
    refine z_iald C hP 1 rfl (k := 2) (zlit 2) (by decide) (by decide) (v := g 2) rfl dX9_cannotAdd_12 ?_
    refine lv_iconst (v := 4) hX hB dX9_cannotAdd_13 (by decide) ?_
    refine lv_icmp_ne (tgt := 21) hX hB dX9_cannotAdd_14 (by decide) (fun c_3 => ?_) (fun c_3 => ?_)
    · refine lv_iconst (v := 0) hX hB dX9_cannotAdd_21 (by decide) ?_
      exact z_iret' 0 (w' := q_X9_cannotAdd cy h0 h1 h2 h3 h4 h5 h6 h7 h8 h9 v1 v2 v3 v4 v5 v6 v7 v8 v9 v10 v11 g) (r0 := (fun (o : Int32) => o)) (by simp only [n_X9_cannotAdd, ← eo_1, if_pos c_2, if_neg c_3]) C hRT hP hD hS (Nat.le_of_ble_eq_true rfl) (Nat.le_of_ble_eq_true rfl) rfl rfl dX9_cannotAdd_22
    · refine lv_iconst (v := 1) hX hB dX9_cannotAdd_17 (by decide) ?_
      refine lv_goto (tgt := 22) hX hB dX9_cannotAdd_18 (by decide) ?_
      exact z_iret' 1 (w' := q_X9_cannotAdd cy h0 h1 h2 h3 h4 h5 h6 h7 h8 h9 v1 v2 v3 v4 v5 v6 v7 v8 v9 v10 v11 g) (r0 := (fun (o : Int32) => o)) (by simp only [n_X9_cannotAdd, ← eo_1, if_pos c_2, if_pos c_3]) C hRT hP hD hS (Nat.le_of_ble_eq_true rfl) (Nat.le_of_ble_eq_true rfl) rfl rfl dX9_cannotAdd_22

def n_X9_cannotStart (g : Nat → Int32) : Int32 :=
  let o_1 := n_X9_runs g
  if o_1 = 0 then
    if g 2 = 0 then
      2
    else
      0
  else
    1
def q_X9_cannotStart (cy : Nat → ClassId) (h0 : Nat) (h1 : Nat) (h2 : Nat) (h3 : Nat) (h4 : Nat) (h5 : Nat) (h6 : Nat) (h7 : Nat) (h8 : Nat) (h9 : Nat) (v1 : Int32) (v2 : Int32) (v3 : Int32) (v4 : Int32) (v5 : Int32) (v6 : Int32) (v7 : Int32) (v8 : Int32) (v9 : Int32) (v10 : Int32) (v11 : Int32) (g : Nat → Int32) (o : Int32) : va_W := [(h0, .inr (11, [.ref h1, .ref h2, .ref h3, .ref h4, .ref h5, .int v1, .int v2, .int v3, .int v4, .int v5, .ref h6, .int v6, .ref h7, .ref h8, .ref h9, .int v7, .int v8, .int v9, .int v10, .int v11])), (h1, .inl (cy 0, 64, .inl (g)))]
set_option maxHeartbeats 4000000 in
set_option maxRecDepth 100000 in
theorem c_X9_cannotStart (l : Launch) {E : zEn} (hE : zEok E) (D : zG) (cy : Nat → ClassId) (h0 h1 h2 h3 h4 h5 h6 h7 h8 h9 : Nat) (v1 : Int32) (v2 : Int32) (v3 : Int32) (v4 : Int32) (v5 : Int32) (v6 : Int32) (v7 : Int32) (v8 : Int32) (v9 : Int32) (v10 : Int32) (v11 : Int32) (g : Nat → Int32)  (sz : Nat) : Met l yX9_cannotStart (zws yX9_cannotStart cX9_cannotStart 1 (some .int)) { frames := 1, cells := 0, slots := 0, locals := 20 } (zPre E D cy [.ref h0] [(h0, .inr (11, [.ref h1, .ref h2, .ref h3, .ref h4, .ref h5, .int v1, .int v2, .int v3, .int v4, .int v5, .ref h6, .int v6, .ref h7, .ref h8, .ref h9, .int v7, .int v8, .int v9, .int v10, .int v11])), (h1, .inl (cy 0, 64, .inl (g)))] sz) (zQi D ((q_X9_cannotStart cy h0 h1 h2 h3 h4 h5 h6 h7 h8 h9 v1 v2 v3 v4 v5 v6 v7 v8 v9 v10 v11 g) (n_X9_cannotStart g)) (va_A [(h0, .inr (11, [.ref h1, .ref h2, .ref h3, .ref h4, .ref h5, .int v1, .int v2, .int v3, .int v4, .int v5, .ref h6, .int v6, .ref h7, .ref h8, .ref h9, .int v7, .int v8, .int v9, .int v10, .int v11])), (h1, .inl (cy 0, 64, .inl (g)))] sz) ((n_X9_cannotStart g))) 0 0 (va_A [(h0, .inr (11, [.ref h1, .ref h2, .ref h3, .ref h4, .ref h5, .int v1, .int v2, .int v3, .int v4, .int v5, .ref h6, .int v6, .ref h7, .ref h8, .ref h9, .int v7, .int v8, .int v9, .int v10, .int v11])), (h1, .inl (cy 0, 64, .inl (g)))] sz) := by
  refine z_of (Qc := fun A => zQi D ((q_X9_cannotStart cy h0 h1 h2 h3 h4 h5 h6 h7 h8 h9 v1 v2 v3 v4 v5 v6 v7 v8 v9 v10 v11 g) (n_X9_cannotStart g)) A ((n_X9_cannotStart g))) (by decide +kernel) (Nat.le_of_ble_eq_true rfl) rfl ?_
  intro pG eN sT mI below meth cO A ls C hRT hnm hA hP hD hS hE0 hl
  have hX := C.x
  have hB := C.b
  refine lv_aload_n hX hB dX9_cannotStart_0 rfl (lv_at hl 0 rfl) ?_
  refine z_callVi (isC := [0, 1]) (isR := []) (isO := [0, 1]) (n_X9_runs g) (q_X9_runs cy h0 h1 h2 h3 h4 h5 h6 h7 h8 h9 v1 v2 v3 v4 v5 v6 v7 v8 v9 v10 v11 g) (fun o_1 => [(h0, .inr (11, [.ref h1, .ref h2, .ref h3, .ref h4, .ref h5, .int v1, .int v2, .int v3, .int v4, .int v5, .ref h6, .int v6, .ref h7, .ref h8, .ref h9, .int v7, .int v8, .int v9, .int v10, .int v11])), (h1, .inl (cy 0, 64, .inl (g)))]) (fun o_1 => o_1) (c_X9_runs l hE D cy h0 h1 h2 h3 h4 h5 h6 h7 h8 h9 v1 v2 v3 v4 v5 v6 v7 v8 v9 v10 v11 g ) hE C zs_X9_76 ⟨Nat.le_of_ble_eq_true rfl, Nat.le_of_ble_eq_true rfl⟩ hP hD hS hA hE0 ⟨rfl, rfl, rfl, by decide, rfl, rfl, rfl⟩ 0 rfl rfl rfl rfl hl.1 (Nat.le_of_ble_eq_true rfl) rfl dX9_cannotStart_1 ⟨Nat.le_of_ble_eq_true rfl, Nat.le_of_ble_eq_true rfl⟩ (fun o_1 H locs eo_1 hP hD hS => ?_)
  refine lv_if_eq (tgt := 11) hX hB dX9_cannotStart_4 (by decide) (fun c_2 => ?_) (fun c_2 => ?_)
  · refine lv_aload_n hX hB dX9_cannotStart_11 rfl (lv_at hl 0 rfl) ?_
    refine fg_X9_7 C hP 0 rfl rfl dX9_cannotStart_12 ?_
    refine lv_iconst (v := 2) hX hB dX9_cannotStart_15 (by decide) ?_
    refine z_iald C hP 1 rfl (k := 2) (zlit 2) (by decide) (by decide) (v := g 2) rfl dX9_cannotStart_16 ?_
    refine lv_if_ne (tgt := 24) hX hB dX9_cannotStart_17 (by decide) (fun c_3 => ?_) (fun c_3 => ?_)
    · refine lv_iconst (v := 0) hX hB dX9_cannotStart_24 (by decide) ?_
      exact z_iret' 0 (w' := q_X9_cannotStart cy h0 h1 h2 h3 h4 h5 h6 h7 h8 h9 v1 v2 v3 v4 v5 v6 v7 v8 v9 v10 v11 g) (r0 := (fun (o : Int32) => o)) (by simp only [n_X9_cannotStart, ← eo_1, if_pos c_2, if_neg c_3]) C hRT hP hD hS (Nat.le_of_ble_eq_true rfl) (Nat.le_of_ble_eq_true rfl) rfl rfl dX9_cannotStart_25
    · refine lv_iconst (v := 2) hX hB dX9_cannotStart_20 (by decide) ?_
      refine lv_goto (tgt := 25) hX hB dX9_cannotStart_21 (by decide) ?_
      exact z_iret' 2 (w' := q_X9_cannotStart cy h0 h1 h2 h3 h4 h5 h6 h7 h8 h9 v1 v2 v3 v4 v5 v6 v7 v8 v9 v10 v11 g) (r0 := (fun (o : Int32) => o)) (by simp only [n_X9_cannotStart, ← eo_1, if_pos c_2, if_pos c_3]) C hRT hP hD hS (Nat.le_of_ble_eq_true rfl) (Nat.le_of_ble_eq_true rfl) rfl rfl dX9_cannotStart_25
  · refine lv_iconst (v := 1) hX hB dX9_cannotStart_7 (by decide) ?_
    refine lv_goto (tgt := 25) hX hB dX9_cannotStart_8 (by decide) ?_
    exact z_iret' 1 (w' := q_X9_cannotStart cy h0 h1 h2 h3 h4 h5 h6 h7 h8 h9 v1 v2 v3 v4 v5 v6 v7 v8 v9 v10 v11 g) (r0 := (fun (o : Int32) => o)) (by simp only [n_X9_cannotStart, ← eo_1, if_neg c_2]) C hRT hP hD hS (Nat.le_of_ble_eq_true rfl) (Nat.le_of_ble_eq_true rfl) rfl rfl dX9_cannotStart_25

def n_X9_thrown (v1 : Int32) : Int32 :=
  v1
def q_X9_thrown (h0 : Nat) (h1 : Nat) (h2 : Nat) (h3 : Nat) (h4 : Nat) (h5 : Nat) (h6 : Nat) (h7 : Nat) (h8 : Nat) (h9 : Nat) (v1 : Int32) (v2 : Int32) (v3 : Int32) (v4 : Int32) (v5 : Int32) (v6 : Int32) (v7 : Int32) (v8 : Int32) (v9 : Int32) (v10 : Int32) (v11 : Int32) (o : Int32) : va_W := [(h0, .inr (11, [.ref h1, .ref h2, .ref h3, .ref h4, .ref h5, .int v1, .int v2, .int v3, .int v4, .int v5, .ref h6, .int v6, .ref h7, .ref h8, .ref h9, .int v7, .int v8, .int v9, .int v10, .int v11]))]
set_option maxHeartbeats 4000000 in
set_option maxRecDepth 100000 in
theorem c_X9_thrown (l : Launch) {E : zEn} (hE : zEok E) (D : zG) (cy : Nat → ClassId) (h0 h1 h2 h3 h4 h5 h6 h7 h8 h9 : Nat) (v1 : Int32) (v2 : Int32) (v3 : Int32) (v4 : Int32) (v5 : Int32) (v6 : Int32) (v7 : Int32) (v8 : Int32) (v9 : Int32) (v10 : Int32) (v11 : Int32)  (sz : Nat) : Met l yX9_thrown (zws yX9_thrown cX9_thrown 1 (some .int)) { frames := 0, cells := 0, slots := 0, locals := 0 } (zPre E D cy [.ref h0] [(h0, .inr (11, [.ref h1, .ref h2, .ref h3, .ref h4, .ref h5, .int v1, .int v2, .int v3, .int v4, .int v5, .ref h6, .int v6, .ref h7, .ref h8, .ref h9, .int v7, .int v8, .int v9, .int v10, .int v11]))] sz) (zQi D ((q_X9_thrown h0 h1 h2 h3 h4 h5 h6 h7 h8 h9 v1 v2 v3 v4 v5 v6 v7 v8 v9 v10 v11) (n_X9_thrown v1)) (va_A [(h0, .inr (11, [.ref h1, .ref h2, .ref h3, .ref h4, .ref h5, .int v1, .int v2, .int v3, .int v4, .int v5, .ref h6, .int v6, .ref h7, .ref h8, .ref h9, .int v7, .int v8, .int v9, .int v10, .int v11]))] sz) ((n_X9_thrown v1))) 0 0 (va_A [(h0, .inr (11, [.ref h1, .ref h2, .ref h3, .ref h4, .ref h5, .int v1, .int v2, .int v3, .int v4, .int v5, .ref h6, .int v6, .ref h7, .ref h8, .ref h9, .int v7, .int v8, .int v9, .int v10, .int v11]))] sz) := by
  refine z_of (Qc := fun A => zQi D ((q_X9_thrown h0 h1 h2 h3 h4 h5 h6 h7 h8 h9 v1 v2 v3 v4 v5 v6 v7 v8 v9 v10 v11) (n_X9_thrown v1)) A ((n_X9_thrown v1))) (by decide +kernel) (Nat.le_of_ble_eq_true rfl) rfl ?_
  intro pG eN sT mI below meth cO A ls C hRT hnm hA hP hD hS hE0 hl
  have hX := C.x
  have hB := C.b
  refine lv_aload_n hX hB dX9_thrown_0 rfl (lv_at hl 0 rfl) ?_
  refine fg_X9_25 C hP 0 rfl rfl dX9_thrown_1 ?_
  exact z_iret' v1 (w' := q_X9_thrown h0 h1 h2 h3 h4 h5 h6 h7 h8 h9 v1 v2 v3 v4 v5 v6 v7 v8 v9 v10 v11) (r0 := (fun (o : Int32) => o)) (by simp only [n_X9_thrown]) C hRT hP hD hS (Nat.le_of_ble_eq_true rfl) (Nat.le_of_ble_eq_true rfl) rfl rfl dX9_thrown_4

end M9
