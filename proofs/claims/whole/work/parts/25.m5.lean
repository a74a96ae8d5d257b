section M5
def n_X9_plain (x : Int32) : Int32 × Int32 :=
  (x, 0)
def q_X9_plain (h0 : Nat) (h1 : Nat) (h2 : Nat) (h3 : Nat) (h4 : Nat) (h5 : Nat) (h6 : Nat) (h7 : Nat) (h8 : Nat) (h9 : Nat) (v2 : Int32) (v3 : Int32) (v4 : Int32) (v5 : Int32) (v6 : Int32) (v7 : Int32) (v8 : Int32) (v9 : Int32) (v10 : Int32) (v11 : Int32) (o : Int32 × Int32) : va_W := [(h0, .inr (11, [.ref h1, .ref h2, .ref h3, .ref h4, .ref h5, .int o.2, .int v2, .int v3, .int v4, .int v5, .ref h6, .int v6, .ref h7, .ref h8, .ref h9, .int v7, .int v8, .int v9, .int v10, .int v11]))]
set_option maxHeartbeats 4000000 in
set_option maxRecDepth 100000 in
theorem c_X9_plain (l : Launch) {E : zEn} (hE : zEok E) (D : zG) (cy : Nat → ClassId) (h0 h1 h2 h3 h4 h5 h6 h7 h8 h9 : Nat) (v1 : Int32) (v2 : Int32) (v3 : Int32) (v4 : Int32) (v5 : Int32) (v6 : Int32) (v7 : Int32) (v8 : Int32) (v9 : Int32) (v10 : Int32) (v11 : Int32) (x : Int32)  (sz : Nat) : Met l yX9_plain (zws yX9_plain cX9_plain 2 (some .int)) { frames := 0, cells := 0, slots := 0, locals := 0 } (zPre E D cy [.ref h0, .int x] [(h0, .inr (11, [.ref h1, .ref h2, .ref h3, .ref h4, .ref h5, .int v1, .int v2, .int v3, .int v4, .int v5, .ref h6, .int v6, .ref h7, .ref h8, .ref h9, .int v7, .int v8, .int v9, .int v10, .int v11]))] sz) (zQi D ((q_X9_plain h0 h1 h2 h3 h4 h5 h6 h7 h8 h9 v2 v3 v4 v5 v6 v7 v8 v9 v10 v11) (n_X9_plain x)) (va_A [(h0, .inr (11, [.ref h1, .ref h2, .ref h3, .ref h4, .ref h5, .int v1, .int v2, .int v3, .int v4, .int v5, .ref h6, .int v6, .ref h7, .ref h8, .ref h9, .int v7, .int v8, .int v9, .int v10, .int v11]))] sz) ((n_X9_plain x).1)) 0 0 (va_A [(h0, .inr (11, [.ref h1, .ref h2, .ref h3, .ref h4, .ref h5, .int v1, .int v2, .int v3, .int v4, .int v5, .ref h6, .int v6, .ref h7, .ref h8, .ref h9, .int v7, .int v8, .int v9, .int v10, .int v11]))] sz) := by
  refine z_of (Qc := fun A => zQi D ((q_X9_plain h0 h1 h2 h3 h4 h5 h6 h7 h8 h9 v2 v3 v4 v5 v6 v7 v8 v9 v10 v11) (n_X9_plain x)) A ((n_X9_plain x).1)) (by decide +kernel) (Nat.le_of_ble_eq_true rfl) rfl ?_
  intro pG eN sT mI below meth cO A ls C hRT hnm hA hP hD hS hE0 hl
  have hX := C.x
  have hB := C.b
  refine lv_aload_n hX hB dX9_plain_0 rfl (lv_at hl 0 rfl) ?_
  refine lv_iconst (v := 0) hX hB dX9_plain_1 (by decide) ?_
  refine fp_X9_25 C hP hD hS 0 rfl rfl rfl (Nat.le_of_ble_eq_true rfl) (w' := [(h0, .inr (11, [.ref h1, .ref h2, .ref h3, .ref h4, .ref h5, .int 0, .int v2, .int v3, .int v4, .int v5, .ref h6, .int v6, .ref h7, .ref h8, .ref h9, .int v7, .int v8, .int v9, .int v10, .int v11]))]) rfl dX9_plain_2 (fun H locs hP hD hS => ?_)
  refine lv_iload_n hX hB dX9_plain_5 rfl (lv_at hl 1 rfl) ?_
  exact z_iret' (x, 0) (w' := q_X9_plain h0 h1 h2 h3 h4 h5 h6 h7 h8 h9 v2 v3 v4 v5 v6 v7 v8 v9 v10 v11) (r0 := (fun (o : Int32 × Int32) => o.1)) (by simp only [n_X9_plain]) C hRT hP hD hS (Nat.le_of_ble_eq_true rfl) (Nat.le_of_ble_eq_true rfl) rfl rfl dX9_plain_6

def n_X9_running_ok (x : Int32) : Int32 × Int32 :=
  (x, 0)
def q_X9_running_ok (cy : Nat → ClassId) (h0 : Nat) (h1 : Nat) (h2 : Nat) (h3 : Nat) (h4 : Nat) (h5 : Nat) (h6 : Nat) (h7 : Nat) (h8 : Nat) (h9 : Nat) (v2 : Int32) (v3 : Int32) (v4 : Int32) (v5 : Int32) (v6 : Int32) (v7 : Int32) (v8 : Int32) (v9 : Int32) (v10 : Int32) (v11 : Int32) (g : Nat → Int32) (o : Int32 × Int32) : va_W := [(h0, .inr (11, [.ref h1, .ref h2, .ref h3, .ref h4, .ref h5, .int o.2, .int v2, .int v3, .int v4, .int v5, .ref h6, .int v6, .ref h7, .ref h8, .ref h9, .int v7, .int v8, .int v9, .int v10, .int v11])), (h1, .inl (cy 0, 64, .inl (g)))]
set_option maxHeartbeats 4000000 in
set_option maxRecDepth 100000 in
theorem c_X9_running_ok (l : Launch) {E : zEn} (hE : zEok E) (D : zG) (cy : Nat → ClassId) (h0 h1 h2 h3 h4 h5 h6 h7 h8 h9 : Nat) (v1 : Int32) (v2 : Int32) (v3 : Int32) (v4 : Int32) (v5 : Int32) (v6 : Int32) (v7 : Int32) (v8 : Int32) (v9 : Int32) (v10 : Int32) (v11 : Int32) (g : Nat → Int32) (x : Int32) (hr : g 0 = 1) (sz : Nat) : Met l yX9_running (zws yX9_running cX9_running 2 (some .int)) { frames := 1, cells := 0, slots := 0, locals := 20 } (zPre E D cy [.ref h0, .int x] [(h0, .inr (11, [.ref h1, .ref h2, .ref h3, .ref h4, .ref h5, .int v1, .int v2, .int v3, .int v4, .int v5, .ref h6, .int v6, .ref h7, .ref h8, .ref h9, .int v7, .int v8, .int v9, .int v10, .int v11])), (h1, .inl (cy 0, 64, .inl (g)))] sz) (zQi D ((q_X9_running_ok cy h0 h1 h2 h3 h4 h5 h6 h7 h8 h9 v2 v3 v4 v5 v6 v7 v8 v9 v10 v11 g) (n_X9_running_ok x)) (va_A [(h0, .inr (11, [.ref h1, .ref h2, .ref h3, .ref h4, .ref h5, .int v1, .int v2, .int v3, .int v4, .int v5, .ref h6, .int v6, .ref h7, .ref h8, .ref h9, .int v7, .int v8, .int v9, .int v10, .int v11])), (h1, .inl (cy 0, 64, .inl (g)))] sz) ((n_X9_running_ok x).1)) 0 0 (va_A [(h0, .inr (11, [.ref h1, .ref h2, .ref h3, .ref h4, .ref h5, .int v1, .int v2, .int v3, .int v4, .int v5, .ref h6, .int v6, .ref h7, .ref h8, .ref h9, .int v7, .int v8, .int v9, .int v10, .int v11])), (h1, .inl (cy 0, 64, .inl (g)))] sz) := by
  refine z_of (Qc := fun A => zQi D ((q_X9_running_ok cy h0 h1 h2 h3 h4 h5 h6 h7 h8 h9 v2 v3 v4 v5 v6 v7 v8 v9 v10 v11 g) (n_X9_running_ok x)) A ((n_X9_running_ok x).1)) (by decide +kernel) (Nat.le_of_ble_eq_true rfl) rfl ?_
  intro pG eN sT mI below meth cO A ls C hRT hnm hA hP hD hS hE0 hl
  have hX := C.x
  have hB := C.b
  refine lv_aload_n hX hB dX9_running_0 rfl (lv_at hl 0 rfl) ?_
  refine lv_aload_n hX hB dX9_running_1 rfl (lv_at hl 0 rfl) ?_
  refine z_callVi (isC := [0, 1]) (isR := []) (isO := [0, 1]) (()) (q_X9_runs_t cy h0 h1 h2 h3 h4 h5 h6 h7 h8 h9 v1 v2 v3 v4 v5 v6 v7 v8 v9 v10 v11 g) (fun o_1 => [(h0, .inr (11, [.ref h1, .ref h2, .ref h3, .ref h4, .ref h5, .int v1, .int v2, .int v3, .int v4, .int v5, .ref h6, .int v6, .ref h7, .ref h8, .ref h9, .int v7, .int v8, .int v9, .int v10, .int v11])), (h1, .inl (cy 0, 64, .inl (g)))]) (fun o_1 => 1) (c_X9_runs_t l hE D cy h0 h1 h2 h3 h4 h5 h6 h7 h8 h9 v1 v2 v3 v4 v5 v6 v7 v8 v9 v10 v11 g hr) hE C zs_X9_76 ⟨Nat.le_of_ble_eq_true rfl, Nat.le_of_ble_eq_true rfl⟩ hP hD hS hA hE0 ⟨rfl, rfl, rfl, by decide, rfl, rfl, rfl⟩ 0 rfl rfl rfl rfl hl.1 (Nat.le_of_ble_eq_true rfl) rfl dX9_running_2 ⟨Nat.le_of_ble_eq_true rfl, Nat.le_of_ble_eq_true rfl⟩ (fun o_1 H locs eo_1 hP hD hS => ?_)
  refine lv_if_eq (tgt := 12) hX hB dX9_running_5 (by decide) (fun c => absurd c (by decide)) (fun _ => ?_)
  refine lv_iconst (v := 0) hX hB dX9_running_8 (by decide) ?_
  refine lv_goto (tgt := 13) hX hB dX9_running_9 (by decide) ?_
  refine fp_X9_25 C hP hD hS 0 rfl rfl rfl (Nat.le_of_ble_eq_true rfl) (w' := [(h0, .inr (11, [.ref h1, .ref h2, .ref h3, .ref h4, .ref h5, .int 0, .int v2, .int v3, .int v4, .int v5, .ref h6, .int v6, .ref h7, .ref h8, .ref h9, .int v7, .int v8, .int v9, .int v10, .int v11])), (h1, .inl (cy 0, 64, .inl (g)))]) rfl dX9_running_13 (fun H locs hP hD hS => ?_)
  refine lv_aload_n hX hB dX9_running_16 rfl (lv_at hl 0 rfl) ?_
  refine fg_X9_25 C hP 0 rfl rfl dX9_running_17 ?_
  refine lv_if_le (tgt := 27) hX hB dX9_running_20 (by decide) (fun _ => ?_) (fun c => absurd (by decide) c)
  refine lv_iload_n hX hB dX9_running_27 rfl (lv_at hl 1 rfl) ?_
  exact z_iret' (x, 0) (w' := q_X9_running_ok cy h0 h1 h2 h3 h4 h5 h6 h7 h8 h9 v2 v3 v4 v5 v6 v7 v8 v9 v10 v11 g) (r0 := (fun (o : Int32 × Int32) => o.1)) (by simp only [n_X9_running_ok]) C hRT hP hD hS (Nat.le_of_ble_eq_true rfl) (Nat.le_of_ble_eq_true rfl) rfl rfl dX9_running_28

def n_X9_running_1  : Int32 :=
  1
def q_X9_running_1 (cy : Nat → ClassId) (h0 : Nat) (h1 : Nat) (h2 : Nat) (h3 : Nat) (h4 : Nat) (h5 : Nat) (h6 : Nat) (h7 : Nat) (h8 : Nat) (h9 : Nat) (v2 : Int32) (v3 : Int32) (v4 : Int32) (v5 : Int32) (v6 : Int32) (v7 : Int32) (v8 : Int32) (v9 : Int32) (v10 : Int32) (v11 : Int32) (g : Nat → Int32) (o : Int32) : va_W := [(h0, .inr (11, [.ref h1, .ref h2, .ref h3, .ref h4, .ref h5, .int o, .int v2, .int v3, .int v4, .int v5, .ref h6, .int v6, .ref h7, .ref h8, .ref h9, .int v7, .int v8, .int v9, .int v10, .int v11])), (h1, .inl (cy 0, 64, .inl (g)))]
set_option maxHeartbeats 4000000 in
set_option maxRecDepth 100000 in
theorem c_X9_running_1 (l : Launch) {E : zEn} (hE : zEok E) (D : zG) (cy : Nat → ClassId) (h0 h1 h2 h3 h4 h5 h6 h7 h8 h9 : Nat) (v1 : Int32) (v2 : Int32) (v3 : Int32) (v4 : Int32) (v5 : Int32) (v6 : Int32) (v7 : Int32) (v8 : Int32) (v9 : Int32) (v10 : Int32) (v11 : Int32) (g : Nat → Int32) (x : Int32) (hr : ¬ g 0 = 1) (sz : Nat) : Met l yX9_running (zws yX9_running cX9_running 2 (some .int)) { frames := 1, cells := 0, slots := 0, locals := 20 } (zPre E D cy [.ref h0, .int x] [(h0, .inr (11, [.ref h1, .ref h2, .ref h3, .ref h4, .ref h5, .int v1, .int v2, .int v3, .int v4, .int v5, .ref h6, .int v6, .ref h7, .ref h8, .ref h9, .int v7, .int v8, .int v9, .int v10, .int v11])), (h1, .inl (cy 0, 64, .inl (g)))] sz) (zQi D ((q_X9_running_1 cy h0 h1 h2 h3 h4 h5 h6 h7 h8 h9 v2 v3 v4 v5 v6 v7 v8 v9 v10 v11 g) n_X9_running_1) (va_A [(h0, .inr (11, [.ref h1, .ref h2, .ref h3, .ref h4, .ref h5, .int v1, .int v2, .int v3, .int v4, .int v5, .ref h6, .int v6, .ref h7, .ref h8, .ref h9, .int v7, .int v8, .int v9, .int v10, .int v11])), (h1, .inl (cy 0, 64, .inl (g)))] sz) (0)) 0 0 (va_A [(h0, .inr (11, [.ref h1, .ref h2, .ref h3, .ref h4, .ref h5, .int v1, .int v2, .int v3, .int v4, .int v5, .ref h6, .int v6, .ref h7, .ref h8, .ref h9, .int v7, .int v8, .int v9, .int v10, .int v11])), (h1, .inl (cy 0, 64, .inl (g)))] sz) := by
  refine z_of (Qc := fun A => zQi D ((q_X9_running_1 cy h0 h1 h2 h3 h4 h5 h6 h7 h8 h9 v2 v3 v4 v5 v6 v7 v8 v9 v10 v11 g) n_X9_running_1) A (0)) (by decide +kernel) (Nat.le_of_ble_eq_true rfl) rfl ?_
  intro pG eN sT mI below meth cO A ls C hRT hnm hA hP hD hS hE0 hl
  have hX := C.x
  have hB := C.b
  refine lv_aload_n hX hB dX9_running_0 rfl (lv_at hl 0 rfl) ?_
  refine lv_aload_n hX hB dX9_running_1 rfl (lv_at hl 0 rfl) ?_
  refine z_callVi (isC := [0, 1]) (isR := []) (isO := [0, 1]) (()) (q_X9_runs_f cy h0 h1 h2 h3 h4 h5 h6 h7 h8 h9 v1 v2 v3 v4 v5 v6 v7 v8 v9 v10 v11 g) (fun o_1 => [(h0, .inr (11, [.ref h1, .ref h2, .ref h3, .ref h4, .ref h5, .int v1, .int v2, .int v3, .int v4, .int v5, .ref h6, .int v6, .ref h7, .ref h8, .ref h9, .int v7, .int v8, .int v9, .int v10, .int v11])), (h1, .inl (cy 0, 64, .inl (g)))]) (fun o_1 => 0) (c_X9_runs_f l hE D cy h0 h1 h2 h3 h4 h5 h6 h7 h8 h9 v1 v2 v3 v4 v5 v6 v7 v8 v9 v10 v11 g hr) hE C zs_X9_76 ⟨Nat.le_of_ble_eq_true rfl, Nat.le_of_ble_eq_true rfl⟩ hP hD hS hA hE0 ⟨rfl, rfl, rfl, by decide, rfl, rfl, rfl⟩ 0 rfl rfl rfl rfl hl.1 (Nat.le_of_ble_eq_true rfl) rfl dX9_running_2 ⟨Nat.le_of_ble_eq_true rfl, Nat.le_of_ble_eq_true rfl⟩ (fun o_1 H locs eo_1 hP hD hS => ?_)
  refine lv_if_eq (tgt := 12) hX hB dX9_running_5 (by decide) (fun _ => ?_) (fun c => absurd (by decide) c)
  refine lv_iconst (v := 1) hX hB dX9_running_12 (by decide) ?_
  refine fp_X9_25 C hP hD hS 0 rfl rfl rfl (Nat.le_of_ble_eq_true rfl) (w' := [(h0, .inr (11, [.ref h1, .ref h2, .ref h3, .ref h4, .ref h5, .int 1, .int v2, .int v3, .int v4, .int v5, .ref h6, .int v6, .ref h7, .ref h8, .ref h9, .int v7, .int v8, .int v9, .int v10, .int v11])), (h1, .inl (cy 0, 64, .inl (g)))]) rfl dX9_running_13 (fun H locs hP hD hS => ?_)
  refine lv_aload_n hX hB dX9_running_16 rfl (lv_at hl 0 rfl) ?_
  refine fg_X9_25 C hP 0 rfl rfl dX9_running_17 ?_
  refine lv_if_le (tgt := 27) hX hB dX9_running_20 (by decide) (fun c => absurd c (by decide)) (fun _ => ?_)
  refine lv_iconst (v := 0) hX hB dX9_running_23 (by decide) ?_
  refine lv_goto (tgt := 28) hX hB dX9_running_24 (by decide) ?_
  exact z_iret' 1 (w' := q_X9_running_1 cy h0 h1 h2 h3 h4 h5 h6 h7 h8 h9 v2 v3 v4 v5 v6 v7 v8 v9 v10 v11 g) (r0 := (fun (o : Int32) => 0)) (by simp only [n_X9_running_1]) C hRT hP hD hS (Nat.le_of_ble_eq_true rfl) (Nat.le_of_ble_eq_true rfl) rfl rfl dX9_running_28

def n_X9_isRunning (g : Nat → Int32) : Int32 × Int32 :=
  let o_1 := n_X9_plain (g 0)
  if o_1.1 = 1 then
    (1, o_1.2)
  else
    (0, o_1.2)
def q_X9_isRunning (cy : Nat → ClassId) (h0 : Nat) (h1 : Nat) (h2 : Nat) (h3 : Nat) (h4 : Nat) (h5 : Nat) (h6 : Nat) (h7 : Nat) (h8 : Nat) (h9 : Nat) (v2 : Int32) (v3 : Int32) (v4 : Int32) (v5 : Int32) (v6 : Int32) (v7 : Int32) (v8 : Int32) (v9 : Int32) (v10 : Int32) (v11 : Int32) (g : Nat → Int32) (o : Int32 × Int32) : va_W := [(h0, .inr (11, [.ref h1, .ref h2, .ref h3, .ref h4, .ref h5, .int o.2, .int v2, .int v3, .int v4, .int v5, .ref h6, .int v6, .ref h7, .ref h8, .ref h9, .int v7, .int v8, .int v9, .int v10, .int v11])), (h1, .inl (cy 0, 64, .inl (g)))]
set_option maxHeartbeats 4000000 in
set_option maxRecDepth 100000 in
theorem c_X9_isRunning (l : Launch) {E : zEn} (hE : zEok E) (D : zG) (cy : Nat → ClassId) (h0 h1 h2 h3 h4 h5 h6 h7 h8 h9 : Nat) (v1 : Int32) (v2 : Int32) (v3 : Int32) (v4 : Int32) (v5 : Int32) (v6 : Int32) (v7 : Int32) (v8 : Int32) (v9 : Int32) (v10 : Int32) (v11 : Int32) (g : Nat → Int32)  (sz : Nat) : Met l yX9_isRunning (zws yX9_isRunning cX9_isRunning 1 (some .boolean)) { frames := 1, cells := 0, slots := 0, locals := 21 } (zPre E D cy [.ref h0] [(h0, .inr (11, [.ref h1, .ref h2, .ref h3, .ref h4, .ref h5, .int v1, .int v2, .int v3, .int v4, .int v5, .ref h6, .int v6, .ref h7, .ref h8, .ref h9, .int v7, .int v8, .int v9, .int v10, .int v11])), (h1, .inl (cy 0, 64, .inl (g)))] sz) (zQi D ((q_X9_isRunning cy h0 h1 h2 h3 h4 h5 h6 h7 h8 h9 v2 v3 v4 v5 v6 v7 v8 v9 v10 v11 g) (n_X9_isRunning g)) (va_A [(h0, .inr (11, [.ref h1, .ref h2, .ref h3, .ref h4, .ref h5, .int v1, .int v2, .int v3, .int v4, .int v5, .ref h6, .int v6, .ref h7, .ref h8, .ref h9, .int v7, .int v8, .int v9, .int v10, .int v11])), (h1, .inl (cy 0, 64, .inl (g)))] sz) ((n_X9_isRunning g).1)) 0 0 (va_A [(h0, .inr (11, [.ref h1, .ref h2, .ref h3, .ref h4, .ref h5, .int v1, .int v2, .int v3, .int v4, .int v5, .ref h6, .int v6, .ref h7, .ref h8, .ref h9, .int v7, .int v8, .int v9, .int v10, .int v11])), (h1, .inl (cy 0, 64, .inl (g)))] sz) := by
  refine z_of (Qc := fun A => zQi D ((q_X9_isRunning cy h0 h1 h2 h3 h4 h5 h6 h7 h8 h9 v2 v3 v4 v5 v6 v7 v8 v9 v10 v11 g) (n_X9_isRunning g)) A ((n_X9_isRunning g).1)) (by decide +kernel) (Nat.le_of_ble_eq_true rfl) rfl ?_
  intro pG eN sT mI below meth cO A ls C hRT hnm hA hP hD hS hE0 hl
  have hX := C.x
  have hB := C.b
  refine lv_aload_n hX hB dX9_isRunning_0 rfl (lv_at hl 0 rfl) ?_
  refine lv_aload_n hX hB dX9_isRunning_1 rfl (lv_at hl 0 rfl) ?_
  refine fg_X9_7 C hP 0 rfl rfl dX9_isRunning_2 ?_
  refine lv_iconst (v := 0) hX hB dX9_isRunning_5 (by decide) ?_
  refine z_iald C hP 1 rfl (k := 0) (zlit 0) (by decide) (by decide) (v := g 0) rfl dX9_isRunning_6 ?_
  refine z_callVi (isC := [0]) (isR := [1]) (isO := [1, 0]) (n_X9_plain (g 0)) (q_X9_plain h0 h1 h2 h3 h4 h5 h6 h7 h8 h9 v2 v3 v4 v5 v6 v7 v8 v9 v10 v11) (fun o_1 => [(h0, .inr (11, [.ref h1, .ref h2, .ref h3, .ref h4, .ref h5, .int o_1.2, .int v2, .int v3, .int v4, .int v5, .ref h6, .int v6, .ref h7, .ref h8, .ref h9, .int v7, .int v8, .int v9, .int v10, .int v11])), (h1, .inl (cy 0, 64, .inl (g)))]) (fun o_1 => o_1.1) (c_X9_plain l hE D cy h0 h1 h2 h3 h4 h5 h6 h7 h8 h9 v1 v2 v3 v4 v5 v6 v7 v8 v9 v10 v11 (g 0) ) hE C zs_X9_165 ⟨Nat.le_of_ble_eq_true rfl, Nat.le_of_ble_eq_true rfl⟩ hP hD hS hA hE0 ⟨rfl, rfl, rfl, by decide, rfl, rfl, rfl⟩ 0 rfl rfl rfl rfl hl.1 (Nat.le_of_ble_eq_true rfl) rfl dX9_isRunning_7 ⟨Nat.le_of_ble_eq_true rfl, Nat.le_of_ble_eq_true rfl⟩ (fun o_1 H locs eo_1 hP hD hS => ?_)
  refine lv_iconst (v := 1) hX hB dX9_isRunning_10 (by decide) ?_
  refine lv_icmp_ne (tgt := 18) hX hB dX9_isRunning_11 (by decide) (fun c_2 => ?_) (fun c_2 => ?_)
  · refine lv_iconst (v := 0) hX hB dX9_isRunning_18 (by decide) ?_
    exact z_zret' (0, o_1.2) (w' := q_X9_isRunning cy h0 h1 h2 h3 h4 h5 h6 h7 h8 h9 v2 v3 v4 v5 v6 v7 v8 v9 v10 v11 g) (r0 := (fun (o : Int32 × Int32) => o.1)) (by simp only [n_X9_isRunning, ← eo_1, if_neg c_2]) C hRT (zb01 (Or.inl rfl)) hP hD hS (Nat.le_of_ble_eq_true rfl) (Nat.le_of_ble_eq_true rfl) rfl rfl dX9_isRunning_19
  · refine lv_iconst (v := 1) hX hB dX9_isRunning_14 (by decide) ?_
    refine lv_goto (tgt := 19) hX hB dX9_isRunning_15 (by decide) ?_
    exact z_zret' (1, o_1.2) (w' := q_X9_isRunning cy h0 h1 h2 h3 h4 h5 h6 h7 h8 h9 v2 v3 v4 v5 v6 v7 v8 v9 v10 v11 g) (r0 := (fun (o : Int32 × Int32) => o.1)) (by simp only [n_X9_isRunning, ← eo_1, if_pos c_2]) C hRT (zb01 (Or.inr rfl)) hP hD hS (Nat.le_of_ble_eq_true rfl) (Nat.le_of_ble_eq_true rfl) rfl rfl dX9_isRunning_19

def n_X9_gameCount (g : Nat → Int32) : Int32 × Int32 :=
  let o_1 := n_X9_plain (g 1)
  (o_1.1, o_1.2)
def q_X9_gameCount (cy : Nat → ClassId) (h0 : Nat) (h1 : Nat) (h2 : Nat) (h3 : Nat) (h4 : Nat) (h5 : Nat) (h6 : Nat) (h7 : Nat) (h8 : Nat) (h9 : Nat) (v2 : Int32) (v3 : Int32) (v4 : Int32) (v5 : Int32) (v6 : Int32) (v7 : Int32) (v8 : Int32) (v9 : Int32) (v10 : Int32) (v11 : Int32) (g : Nat → Int32) (o : Int32 × Int32) : va_W := [(h0, .inr (11, [.ref h1, .ref h2, .ref h3, .ref h4, .ref h5, .int o.2, .int v2, .int v3, .int v4, .int v5, .ref h6, .int v6, .ref h7, .ref h8, .ref h9, .int v7, .int v8, .int v9, .int v10, .int v11])), (h1, .inl (cy 0, 64, .inl (g)))]
set_option maxHeartbeats 4000000 in
set_option maxRecDepth 100000 in
theorem c_X9_gameCount (l : Launch) {E : zEn} (hE : zEok E) (D : zG) (cy : Nat → ClassId) (h0 h1 h2 h3 h4 h5 h6 h7 h8 h9 : Nat) (v1 : Int32) (v2 : Int32) (v3 : Int32) (v4 : Int32) (v5 : Int32) (v6 : Int32) (v7 : Int32) (v8 : Int32) (v9 : Int32) (v10 : Int32) (v11 : Int32) (g : Nat → Int32)  (sz : Nat) : Met l yX9_gameCount (zws yX9_gameCount cX9_gameCount 1 (some .int)) { frames := 1, cells := 0, slots := 0, locals := 21 } (zPre E D cy [.ref h0] [(h0, .inr (11, [.ref h1, .ref h2, .ref h3, .ref h4, .ref h5, .int v1, .int v2, .int v3, .int v4, .int v5, .ref h6, .int v6, .ref h7, .ref h8, .ref h9, .int v7, .int v8, .int v9, .int v10, .int v11])), (h1, .inl (cy 0, 64, .inl (g)))] sz) (zQi D ((q_X9_gameCount cy h0 h1 h2 h3 h4 h5 h6 h7 h8 h9 v2 v3 v4 v5 v6 v7 v8 v9 v10 v11 g) (n_X9_gameCount g)) (va_A [(h0, .inr (11, [.ref h1, .ref h2, .ref h3, .ref h4, .ref h5, .int v1, .int v2, .int v3, .int v4, .int v5, .ref h6, .int v6, .ref h7, .ref h8, .ref h9, .int v7, .int v8, .int v9, .int v10, .int v11])), (h1, .inl (cy 0, 64, .inl (g)))] sz) ((n_X9_gameCount g).1)) 0 0 (va_A [(h0, .inr (11, [.ref h1, .ref h2, .ref h3, .ref h4, .ref h5, .int v1, .int v2, .int v3, .int v4, .int v5, .ref h6, .int v6, .ref h7, .ref h8, .ref h9, .int v7, .int v8, .int v9, .int v10, .int v11])), (h1, .inl (cy 0, 64, .inl (g)))] sz) := by
  refine z_of (Qc := fun A => zQi D ((q_X9_gameCount cy h0 h1 h2 h3 h4 h5 h6 h7 h8 h9 v2 v3 v4 v5 v6 v7 v8 v9 v10 v11 g) (n_X9_gameCount g)) A ((n_X9_gameCount g).1)) (by decide +kernel) (Nat.le_of_ble_eq_true rfl) rfl ?_
  intro pG eN sT mI below meth cO A ls C hRT hnm hA hP hD hS hE0 hl
  have hX := C.x
  have hB := C.b
  refine lv_aload_n hX hB dX9_gameCount_0 rfl (lv_at hl 0 rfl) ?_
  refine lv_aload_n hX hB dX9_gameCount_1 rfl (lv_at hl 0 rfl) ?_
  refine fg_X9_7 C hP 0 rfl rfl dX9_gameCount_2 ?_
  refine lv_iconst (v := 1) hX hB dX9_gameCount_5 (by decide) ?_
  refine z_iald C hP 1 rfl (k := 1) (zlit 1) (by decide) (by decide) (v := g 1) rfl dX9_gameCount_6 ?_
  refine z_callVi (isC := [0]) (isR := [1]) (isO := [1, 0]) (n_X9_plain (g 1)) (q_X9_plain h0 h1 h2 h3 h4 h5 h6 h7 h8 h9 v2 v3 v4 v5 v6 v7 v8 v9 v10 v11) (fun o_1 => [(h0, .inr (11, [.ref h1, .ref h2, .ref h3, .ref h4, .ref h5, .int o_1.2, .int v2, .int v3, .int v4, .int v5, .ref h6, .int v6, .ref h7, .ref h8, .ref h9, .int v7, .int v8, .int v9, .int v10, .int v11])), (h1, .inl (cy 0, 64, .inl (g)))]) (fun o_1 => o_1.1) (c_X9_plain l hE D cy h0 h1 h2 h3 h4 h5 h6 h7 h8 h9 v1 v2 v3 v4 v5 v6 v7 v8 v9 v10 v11 (g 1) ) hE C zs_X9_165 ⟨Nat.le_of_ble_eq_true rfl, Nat.le_of_ble_eq_true rfl⟩ hP hD hS hA hE0 ⟨rfl, rfl, rfl, by decide, rfl, rfl, rfl⟩ 0 rfl rfl rfl rfl hl.1 (Nat.le_of_ble_eq_true rfl) rfl dX9_gameCount_7 ⟨Nat.le_of_ble_eq_true rfl, Nat.le_of_ble_eq_true rfl⟩ (fun o_1 H locs eo_1 hP hD hS => ?_)
  exact z_iret' (o_1.1, o_1.2) (w' := q_X9_gameCount cy h0 h1 h2 h3 h4 h5 h6 h7 h8 h9 v2 v3 v4 v5 v6 v7 v8 v9 v10 v11 g) (r0 := (fun (o : Int32 × Int32) => o.1)) (by simp only [n_X9_gameCount, ← eo_1]) C hRT hP hD hS (Nat.le_of_ble_eq_true rfl) (Nat.le_of_ble_eq_true rfl) rfl rfl dX9_gameCount_10

def n_X9_playerCount (g : Nat → Int32) : Int32 × Int32 :=
  let o_1 := n_X9_plain (g 2)
  (o_1.1, o_1.2)
def q_X9_playerCount (cy : Nat → ClassId) (h0 : Nat) (h1 : Nat) (h2 : Nat) (h3 : Nat) (h4 : Nat) (h5 : Nat) (h6 : Nat) (h7 : Nat) (h8 : Nat) (h9 : Nat) (v2 : Int32) (v3 : Int32) (v4 : Int32) (v5 : Int32) (v6 : Int32) (v7 : Int32) (v8 : Int32) (v9 : Int32) (v10 : Int32) (v11 : Int32) (g : Nat → Int32) (o : Int32 × Int32) : va_W := [(h0, .inr (11, [.ref h1, .ref h2, .ref h3, .ref h4, .ref h5, .int o.2, .int v2, .int v3, .int v4, .int v5, .ref h6, .int v6, .ref h7, .ref h8, .ref h9, .int v7, .int v8, .int v9, .int v10, .int v11])), (h1, .inl (cy 0, 64, .inl (g)))]
set_option maxHeartbeats 4000000 in
set_option maxRecDepth 100000 in
theorem c_X9_playerCount (l : Launch) {E : zEn} (hE : zEok E) (D : zG) (cy : Nat → ClassId) (h0 h1 h2 h3 h4 h5 h6 h7 h8 h9 : Nat) (v1 : Int32) (v2 : Int32) (v3 : Int32) (v4 : Int32) (v5 : Int32) (v6 : Int32) (v7 : Int32) (v8 : Int32) (v9 : Int32) (v10 : Int32) (v11 : Int32) (g : Nat → Int32)  (sz : Nat) : Met l yX9_playerCount (zws yX9_playerCount cX9_playerCount 1 (some .int)) { frames := 1, cells := 0, slots := 0, locals := 21 } (zPre E D cy [.ref h0] [(h0, .inr (11, [.ref h1, .ref h2, .ref h3, .ref h4, .ref h5, .int v1, .int v2, .int v3, .int v4, .int v5, .ref h6, .int v6, .ref h7, .ref h8, .ref h9, .int v7, .int v8, .int v9, .int v10, .int v11])), (h1, .inl (cy 0, 64, .inl (g)))] sz) (zQi D ((q_X9_playerCount cy h0 h1 h2 h3 h4 h5 h6 h7 h8 h9 v2 v3 v4 v5 v6 v7 v8 v9 v10 v11 g) (n_X9_playerCount g)) (va_A [(h0, .inr (11, [.ref h1, .ref h2, .ref h3, .ref h4, .ref h5, .int v1, .int v2, .int v3, .int v4, .int v5, .ref h6, .int v6, .ref h7, .ref h8, .ref h9, .int v7, .int v8, .int v9, .int v10, .int v11])), (h1, .inl (cy 0, 64, .inl (g)))] sz) ((n_X9_playerCount g).1)) 0 0 (va_A [(h0, .inr (11, [.ref h1, .ref h2, .ref h3, .ref h4, .ref h5, .int v1, .int v2, .int v3, .int v4, .int v5, .ref h6, .int v6, .ref h7, .ref h8, .ref h9, .int v7, .int v8, .int v9, .int v10, .int v11])), (h1, .inl (cy 0, 64, .inl (g)))] sz) := by
  refine z_of (Qc := fun A => zQi D ((q_X9_playerCount cy h0 h1 h2 h3 h4 h5 h6 h7 h8 h9 v2 v3 v4 v5 v6 v7 v8 v9 v10 v11 g) (n_X9_playerCount g)) A ((n_X9_playerCount g).1)) (by decide +kernel) (Nat.le_of_ble_eq_true rfl) rfl ?_
  intro pG eN sT mI below meth cO A ls C hRT hnm hA hP hD hS hE0 hl
  have hX := C.x
  have hB := C.b
  refine lv_aload_n hX hB dX9_playerCount_0 rfl (lv_at hl 0 rfl) ?_
  refine lv_aload_n hX hB dX9_playerCount_1 rfl (lv_at hl 0 rfl) ?_
  refine fg_X9_7 C hP 0 rfl rfl dX9_playerCount_2 ?_
  refine lv_iconst (v := 2) hX hB dX9_playerCount_5 (by decide) ?_
  refine z_iald C hP 1 rfl (k := 2) (zlit 2) (by decide) (by decide) (v := g 2) rfl dX9_playerCount_6 ?_
  refine z_callVi (isC := [0]) (isR := [1]) (isO := [1, 0]) (n_X9_plain (g 2)) (q_X9_plain h0 h1 h2 h3 h4 h5 h6 h7 h8 h9 v2 v3 v4 v5 v6 v7 v8 v9 v10 v11) (fun o_1 => [(h0, .inr (11, [.ref h1, .ref h2, .ref h3, .ref h4, .ref h5, .int o_1.2, .int v2, .int v3, .int v4, .int v5, .ref h6, .int v6, .ref h7, .ref h8, .ref h9, .int v7, .int v8, .int v9, .int v10, .int v11])), (h1, .inl (cy 0, 64, .inl (g)))]) (fun o_1 => o_1.1) (c_X9_plain l hE D cy h0 h1 h2 h3 h4 h5 h6 h7 h8 h9 v1 v2 v3 v4 v5 v6 v7 v8 v9 v10 v11 (g 2) ) hE C zs_X9_165 ⟨Nat.le_of_ble_eq_true rfl, Nat.le_of_ble_eq_true rfl⟩ hP hD hS hA hE0 ⟨rfl, rfl, rfl, by decide, rfl, rfl, rfl⟩ 0 rfl rfl rfl rfl hl.1 (Nat.le_of_ble_eq_true rfl) rfl dX9_playerCount_7 ⟨Nat.le_of_ble_eq_true rfl, Nat.le_of_ble_eq_true rfl⟩ (fun o_1 H locs eo_1 hP hD hS => ?_)
  exact z_iret' (o_1.1, o_1.2) (w' := q_X9_playerCount cy h0 h1 h2 h3 h4 h5 h6 h7 h8 h9 v2 v3 v4 v5 v6 v7 v8 v9 v10 v11 g) (r0 := (fun (o : Int32 × Int32) => o.1)) (by simp only [n_X9_playerCount, ← eo_1]) C hRT hP hD hS (Nat.le_of_ble_eq_true rfl) (Nat.le_of_ble_eq_true rfl) rfl rfl dX9_playerCount_10

def n_X9_recordCount (g : Nat → Int32) : Int32 × Int32 :=
  let o_1 := n_X9_plain (g 13)
  (o_1.1, o_1.2)
def q_X9_recordCount (cy : Nat → ClassId) (h0 : Nat) (h1 : Nat) (h2 : Nat) (h3 : Nat) (h4 : Nat) (h5 : Nat) (h6 : Nat) (h7 : Nat) (h8 : Nat) (h9 : Nat) (v2 : Int32) (v3 : Int32) (v4 : Int32) (v5 : Int32) (v6 : Int32) (v7 : Int32) (v8 : Int32) (v9 : Int32) (v10 : Int32) (v11 : Int32) (g : Nat → Int32) (o : Int32 × Int32) : va_W := [(h0, .inr (11, [.ref h1, .ref h2, .ref h3, .ref h4, .ref h5, .int o.2, .int v2, .int v3, .int v4, .int v5, .ref h6, .int v6, .ref h7, .ref h8, .ref h9, .int v7, .int v8, .int v9, .int v10, .int v11])), (h1, .inl (cy 0, 64, .inl (g)))]
set_option maxHeartbeats 4000000 in
set_option maxRecDepth 100000 in
theorem c_X9_recordCount (l : Launch) {E : zEn} (hE : zEok E) (D : zG) (cy : Nat → ClassId) (h0 h1 h2 h3 h4 h5 h6 h7 h8 h9 : Nat) (v1 : Int32) (v2 : Int32) (v3 : Int32) (v4 : Int32) (v5 : Int32) (v6 : Int32) (v7 : Int32) (v8 : Int32) (v9 : Int32) (v10 : Int32) (v11 : Int32) (g : Nat → Int32)  (sz : Nat) : Met l yX9_recordCount (zws yX9_recordCount cX9_recordCount 1 (some .int)) { frames := 1, cells := 0, slots := 0, locals := 21 } (zPre E D cy [.ref h0] [(h0, .inr (11, [.ref h1, .ref h2, .ref h3, .ref h4, .ref h5, .int v1, .int v2, .int v3, .int v4, .int v5, .ref h6, .int v6, .ref h7, .ref h8, .ref h9, .int v7, .int v8, .int v9, .int v10, .int v11])), (h1, .inl (cy 0, 64, .inl (g)))] sz) (zQi D ((q_X9_recordCount cy h0 h1 h2 h3 h4 h5 h6 h7 h8 h9 v2 v3 v4 v5 v6 v7 v8 v9 v10 v11 g) (n_X9_recordCount g)) (va_A [(h0, .inr (11, [.ref h1, .ref h2, .ref h3, .ref h4, .ref h5, .int v1, .int v2, .int v3, .int v4, .int v5, .ref h6, .int v6, .ref h7, .ref h8, .ref h9, .int v7, .int v8, .int v9, .int v10, .int v11])), (h1, .inl (cy 0, 64, .inl (g)))] sz) ((n_X9_recordCount g).1)) 0 0 (va_A [(h0, .inr (11, [.ref h1, .ref h2, .ref h3, .ref h4, .ref h5, .int v1, .int v2, .int v3, .int v4, .int v5, .ref h6, .int v6, .ref h7, .ref h8, .ref h9, .int v7, .int v8, .int v9, .int v10, .int v11])), (h1, .inl (cy 0, 64, .inl (g)))] sz) := by
  refine z_of (Qc := fun A => zQi D ((q_X9_recordCount cy h0 h1 h2 h3 h4 h5 h6 h7 h8 h9 v2 v3 v4 v5 v6 v7 v8 v9 v10 v11 g) (n_X9_recordCount g)) A ((n_X9_recordCount g).1)) (by decide +kernel) (Nat.le_of_ble_eq_true rfl) rfl ?_
  intro pG eN sT mI below meth cO A ls C hRT hnm hA hP hD hS hE0 hl
  have hX := C.x
  have hB := C.b
  refine lv_aload_n hX hB dX9_recordCount_0 rfl (lv_at hl 0 rfl) ?_
  refine lv_aload_n hX hB dX9_recordCount_1 rfl (lv_at hl 0 rfl) ?_
  refine fg_X9_7 C hP 0 rfl rfl dX9_recordCount_2 ?_
  refine lv_bipush (v := 13) hX hB dX9_recordCount_5 (by decide) ?_
  refine z_iald C hP 1 rfl (k := 13) (zlit 13) (by decide) (by decide) (v := g 13) rfl dX9_recordCount_7 ?_
  refine z_callVi (isC := [0]) (isR := [1]) (isO := [1, 0]) (n_X9_plain (g 13)) (q_X9_plain h0 h1 h2 h3 h4 h5 h6 h7 h8 h9 v2 v3 v4 v5 v6 v7 v8 v9 v10 v11) (fun o_1 => [(h0, .inr (11, [.ref h1, .ref h2, .ref h3, .ref h4, .ref h5, .int o_1.2, .int v2, .int v3, .int v4, .int v5, .ref h6, .int v6, .ref h7, .ref h8, .ref h9, .int v7, .int v8, .int v9, .int v10, .int v11])), (h1, .inl (cy 0, 64, .inl (g)))]) (fun o_1 => o_1.1) (c_X9_plain l hE D cy h0 h1 h2 h3 h4 h5 h6 h7 h8 h9 v1 v2 v3 v4 v5 v6 v7 v8 v9 v10 v11 (g 13) ) hE C zs_X9_165 ⟨Nat.le_of_ble_eq_true rfl, Nat.le_of_ble_eq_true rfl⟩ hP hD hS hA hE0 ⟨rfl, rfl, rfl, by decide, rfl, rfl, rfl⟩ 0 rfl rfl rfl rfl hl.1 (Nat.le_of_ble_eq_true rfl) rfl dX9_recordCount_8 ⟨Nat.le_of_ble_eq_true rfl, Nat.le_of_ble_eq_true rfl⟩ (fun o_1 H locs eo_1 hP hD hS => ?_)
  exact z_iret' (o_1.1, o_1.2) (w' := q_X9_recordCount cy h0 h1 h2 h3 h4 h5 h6 h7 h8 h9 v2 v3 v4 v5 v6 v7 v8 v9 v10 v11 g) (r0 := (fun (o : Int32 × Int32) => o.1)) (by simp only [n_X9_recordCount, ← eo_1]) C hRT hP hD hS (Nat.le_of_ble_eq_true rfl) (Nat.le_of_ble_eq_true rfl) rfl rfl dX9_recordCount_11

def n_X9_pointsTotal (g : Nat → Int32) : Int32 × Int32 :=
  let o_1 := n_X9_plain ((((g 42) + (g 43)) + (g 44)) + (g 45))
  (o_1.1, o_1.2)
def q_X9_pointsTotal (cy : Nat → ClassId) (h0 : Nat) (h1 : Nat) (h2 : Nat) (h3 : Nat) (h4 : Nat) (h5 : Nat) (h6 : Nat) (h7 : Nat) (h8 : Nat) (h9 : Nat) (v2 : Int32) (v3 : Int32) (v4 : Int32) (v5 : Int32) (v6 : Int32) (v7 : Int32) (v8 : Int32) (v9 : Int32) (v10 : Int32) (v11 : Int32) (g : Nat → Int32) (o : Int32 × Int32) : va_W := [(h0, .inr (11, [.ref h1, .ref h2, .ref h3, .ref h4, .ref h5, .int o.2, .int v2, .int v3, .int v4, .int v5, .ref h6, .int v6, .ref h7, .ref h8, .ref h9, .int v7, .int v8, .int v9, .int v10, .int v11])), (h1, .inl (cy 0, 64, .inl (g)))]
set_option maxHeartbeats 4000000 in
set_option maxRecDepth 100000 in
theorem c_X9_pointsTotal (l : Launch) {E : zEn} (hE : zEok E) (D : zG) (cy : Nat → ClassId) (h0 h1 h2 h3 h4 h5 h6 h7 h8 h9 : Nat) (v1 : Int32) (v2 : Int32) (v3 : Int32) (v4 : Int32) (v5 : Int32) (v6 : Int32) (v7 : Int32) (v8 : Int32) (v9 : Int32) (v10 : Int32) (v11 : Int32) (g : Nat → Int32)  (sz : Nat) : Met l yX9_pointsTotal (zws yX9_pointsTotal cX9_pointsTotal 1 (some .int)) { frames := 1, cells := 0, slots := 0, locals := 21 } (zPre E D cy [.ref h0] [(h0, .inr (11, [.ref h1, .ref h2, .ref h3, .ref h4, .ref h5, .int v1, .int v2, .int v3, .int v4, .int v5, .ref h6, .int v6, .ref h7, .ref h8, .ref h9, .int v7, .int v8, .int v9, .int v10, .int v11])), (h1, .inl (cy 0, 64, .inl (g)))] sz) (zQi D ((q_X9_pointsTotal cy h0 h1 h2 h3 h4 h5 h6 h7 h8 h9 v2 v3 v4 v5 v6 v7 v8 v9 v10 v11 g) (n_X9_pointsTotal g)) (va_A [(h0, .inr (11, [.ref h1, .ref h2, .ref h3, .ref h4, .ref h5, .int v1, .int v2, .int v3, .int v4, .int v5, .ref h6, .int v6, .ref h7, .ref h8, .ref h9, .int v7, .int v8, .int v9, .int v10, .int v11])), (h1, .inl (cy 0, 64, .inl (g)))] sz) ((n_X9_pointsTotal g).1)) 0 0 (va_A [(h0, .inr (11, [.ref h1, .ref h2, .ref h3, .ref h4, .ref h5, .int v1, .int v2, .int v3, .int v4, .int v5, .ref h6, .int v6, .ref h7, .ref h8, .ref h9, .int v7, .int v8, .int v9, .int v10, .int v11])), (h1, .inl (cy 0, 64, .inl (g)))] sz) := by
  refine z_of (Qc := fun A => zQi D ((q_X9_pointsTotal cy h0 h1 h2 h3 h4 h5 h6 h7 h8 h9 v2 v3 v4 v5 v6 v7 v8 v9 v10 v11 g) (n_X9_pointsTotal g)) A ((n_X9_pointsTotal g).1)) (by decide +kernel) (Nat.le_of_ble_eq_true rfl) rfl ?_
  intro pG eN sT mI below meth cO A ls C hRT hnm hA hP hD hS hE0 hl
  have hX := C.x
  have hB := C.b
  refine lv_aload_n hX hB dX9_pointsTotal_0 rfl (lv_at hl 0 rfl) ?_
  refine lv_aload_n hX hB dX9_pointsTotal_1 rfl (lv_at hl 0 rfl) ?_
  refine fg_X9_7 C hP 0 rfl rfl dX9_pointsTotal_2 ?_
  refine lv_bipush (v := 42) hX hB dX9_pointsTotal_5 (by decide) ?_
  refine z_iald C hP 1 rfl (k := 42) (zlit 42) (by decide) (by decide) (v := g 42) rfl dX9_pointsTotal_7 ?_
  refine lv_aload_n hX hB dX9_pointsTotal_8 rfl (lv_at hl 0 rfl) ?_
  refine fg_X9_7 C hP 0 rfl rfl dX9_pointsTotal_9 ?_
  refine lv_bipush (v := 43) hX hB dX9_pointsTotal_12 (by decide) ?_
  refine z_iald C hP 1 rfl (k := 43) (zlit 43) (by decide) (by decide) (v := g 43) rfl dX9_pointsTotal_14 ?_
  refine z_iadd (v := (g 42) + (g 43)) C dX9_pointsTotal_15 rfl ?_
  refine lv_aload_n hX hB dX9_pointsTotal_16 rfl (lv_at hl 0 rfl) ?_
  refine fg_X9_7 C hP 0 rfl rfl dX9_pointsTotal_17 ?_
  refine lv_bipush (v := 44) hX hB dX9_pointsTotal_20 (by decide) ?_
  refine z_iald C hP 1 rfl (k := 44) (zlit 44) (by decide) (by decide) (v := g 44) rfl dX9_pointsTotal_22 ?_
  refine z_iadd (v := ((g 42) + (g 43)) + (g 44)) C dX9_pointsTotal_23 rfl ?_
  refine lv_aload_n hX hB dX9_pointsTotal_24 rfl (lv_at hl 0 rfl) ?_
  refine fg_X9_7 C hP 0 rfl rfl dX9_pointsTotal_25 ?_
  refine lv_bipush (v := 45) hX hB dX9_pointsTotal_28 (by decide) ?_
  refine z_iald C hP 1 rfl (k := 45) (zlit 45) (by decide) (by decide) (v := g 45) rfl dX9_pointsTotal_30 ?_
  refine z_iadd (v := (((g 42) + (g 43)) + (g 44)) + (g 45)) C dX9_pointsTotal_31 rfl ?_
  refine z_callVi (isC := [0]) (isR := [1]) (isO := [1, 0]) (n_X9_plain ((((g 42) + (g 43)) + (g 44)) + (g 45))) (q_X9_plain h0 h1 h2 h3 h4 h5 h6 h7 h8 h9 v2 v3 v4 v5 v6 v7 v8 v9 v10 v11) (fun o_1 => [(h0, .inr (11, [.ref h1, .ref h2, .ref h3, .ref h4, .ref h5, .int o_1.2, .int v2, .int v3, .int v4, .int v5, .ref h6, .int v6, .ref h7, .ref h8, .ref h9, .int v7, .int v8, .int v9, .int v10, .int v11])), (h1, .inl (cy 0, 64, .inl (g)))]) (fun o_1 => o_1.1) (c_X9_plain l hE D cy h0 h1 h2 h3 h4 h5 h6 h7 h8 h9 v1 v2 v3 v4 v5 v6 v7 v8 v9 v10 v11 ((((g 42) + (g 43)) + (g 44)) + (g 45)) ) hE C zs_X9_165 ⟨Nat.le_of_ble_eq_true rfl, Nat.le_of_ble_eq_true rfl⟩ hP hD hS hA hE0 ⟨rfl, rfl, rfl, by decide, rfl, rfl, rfl⟩ 0 rfl rfl rfl rfl hl.1 (Nat.le_of_ble_eq_true rfl) rfl dX9_pointsTotal_32 ⟨Nat.le_of_ble_eq_true rfl, Nat.le_of_ble_eq_true rfl⟩ (fun o_1 H locs eo_1 hP hD hS => ?_)
  exact z_iret' (o_1.1, o_1.2) (w' := q_X9_pointsTotal cy h0 h1 h2 h3 h4 h5 h6 h7 h8 h9 v2 v3 v4 v5 v6 v7 v8 v9 v10 v11 g) (r0 := (fun (o : Int32 × Int32) => o.1)) (by simp only [n_X9_pointsTotal, ← eo_1]) C hRT hP hD hS (Nat.le_of_ble_eq_true rfl) (Nat.le_of_ble_eq_true rfl) rfl rfl dX9_pointsTotal_35

def n_X9_drainedBalls (g : Nat → Int32) : Int32 × Int32 :=
  let o_1 := n_X9_plain (g 14)
  (o_1.1, o_1.2)
def q_X9_drainedBalls (cy : Nat → ClassId) (h0 : Nat) (h1 : Nat) (h2 : Nat) (h3 : Nat) (h4 : Nat) (h5 : Nat) (h6 : Nat) (h7 : Nat) (h8 : Nat) (h9 : Nat) (v2 : Int32) (v3 : Int32) (v4 : Int32) (v5 : Int32) (v6 : Int32) (v7 : Int32) (v8 : Int32) (v9 : Int32) (v10 : Int32) (v11 : Int32) (g : Nat → Int32) (o : Int32 × Int32) : va_W := [(h0, .inr (11, [.ref h1, .ref h2, .ref h3, .ref h4, .ref h5, .int o.2, .int v2, .int v3, .int v4, .int v5, .ref h6, .int v6, .ref h7, .ref h8, .ref h9, .int v7, .int v8, .int v9, .int v10, .int v11])), (h1, .inl (cy 0, 64, .inl (g)))]
set_option maxHeartbeats 4000000 in
set_option maxRecDepth 100000 in
theorem c_X9_drainedBalls (l : Launch) {E : zEn} (hE : zEok E) (D : zG) (cy : Nat → ClassId) (h0 h1 h2 h3 h4 h5 h6 h7 h8 h9 : Nat) (v1 : Int32) (v2 : Int32) (v3 : Int32) (v4 : Int32) (v5 : Int32) (v6 : Int32) (v7 : Int32) (v8 : Int32) (v9 : Int32) (v10 : Int32) (v11 : Int32) (g : Nat → Int32)  (sz : Nat) : Met l yX9_drainedBalls (zws yX9_drainedBalls cX9_drainedBalls 1 (some .int)) { frames := 1, cells := 0, slots := 0, locals := 21 } (zPre E D cy [.ref h0] [(h0, .inr (11, [.ref h1, .ref h2, .ref h3, .ref h4, .ref h5, .int v1, .int v2, .int v3, .int v4, .int v5, .ref h6, .int v6, .ref h7, .ref h8, .ref h9, .int v7, .int v8, .int v9, .int v10, .int v11])), (h1, .inl (cy 0, 64, .inl (g)))] sz) (zQi D ((q_X9_drainedBalls cy h0 h1 h2 h3 h4 h5 h6 h7 h8 h9 v2 v3 v4 v5 v6 v7 v8 v9 v10 v11 g) (n_X9_drainedBalls g)) (va_A [(h0, .inr (11, [.ref h1, .ref h2, .ref h3, .ref h4, .ref h5, .int v1, .int v2, .int v3, .int v4, .int v5, .ref h6, .int v6, .ref h7, .ref h8, .ref h9, .int v7, .int v8, .int v9, .int v10, .int v11])), (h1, .inl (cy 0, 64, .inl (g)))] sz) ((n_X9_drainedBalls g).1)) 0 0 (va_A [(h0, .inr (11, [.ref h1, .ref h2, .ref h3, .ref h4, .ref h5, .int v1, .int v2, .int v3, .int v4, .int v5, .ref h6, .int v6, .ref h7, .ref h8, .ref h9, .int v7, .int v8, .int v9, .int v10, .int v11])), (h1, .inl (cy 0, 64, .inl (g)))] sz) := by
  refine z_of (Qc := fun A => zQi D ((q_X9_drainedBalls cy h0 h1 h2 h3 h4 h5 h6 h7 h8 h9 v2 v3 v4 v5 v6 v7 v8 v9 v10 v11 g) (n_X9_drainedBalls g)) A ((n_X9_drainedBalls g).1)) (by decide +kernel) (Nat.le_of_ble_eq_true rfl) rfl ?_
  intro pG eN sT mI below meth cO A ls C hRT hnm hA hP hD hS hE0 hl
  have hX := C.x
  have hB := C.b
  refine lv_aload_n hX hB dX9_drainedBalls_0 rfl (lv_at hl 0 rfl) ?_
  refine lv_aload_n hX hB dX9_drainedBalls_1 rfl (lv_at hl 0 rfl) ?_
  refine fg_X9_7 C hP 0 rfl rfl dX9_drainedBalls_2 ?_
  refine lv_bipush (v := 14) hX hB dX9_drainedBalls_5 (by decide) ?_
  refine z_iald C hP 1 rfl (k := 14) (zlit 14) (by decide) (by decide) (v := g 14) rfl dX9_drainedBalls_7 ?_
  refine z_callVi (isC := [0]) (isR := [1]) (isO := [1, 0]) (n_X9_plain (g 14)) (q_X9_plain h0 h1 h2 h3 h4 h5 h6 h7 h8 h9 v2 v3 v4 v5 v6 v7 v8 v9 v10 v11) (fun o_1 => [(h0, .inr (11, [.ref h1, .ref h2, .ref h3, .ref h4, .ref h5, .int o_1.2, .int v2, .int v3, .int v4, .int v5, .ref h6, .int v6, .ref h7, .ref h8, .ref h9, .int v7, .int v8, .int v9, .int v10, .int v11])), (h1, .inl (cy 0, 64, .inl (g)))]) (fun o_1 => o_1.1) (c_X9_plain l hE D cy h0 h1 h2 h3 h4 h5 h6 h7 h8 h9 v1 v2 v3 v4 v5 v6 v7 v8 v9 v10 v11 (g 14) ) hE C zs_X9_165 ⟨Nat.le_of_ble_eq_true rfl, Nat.le_of_ble_eq_true rfl⟩ hP hD hS hA hE0 ⟨rfl, rfl, rfl, by decide, rfl, rfl, rfl⟩ 0 rfl rfl rfl rfl hl.1 (Nat.le_of_ble_eq_true rfl) rfl dX9_drainedBalls_8 ⟨Nat.le_of_ble_eq_true rfl, Nat.le_of_ble_eq_true rfl⟩ (fun o_1 H locs eo_1 hP hD hS => ?_)
  exact z_iret' (o_1.1, o_1.2) (w' := q_X9_drainedBalls cy h0 h1 h2 h3 h4 h5 h6 h7 h8 h9 v2 v3 v4 v5 v6 v7 v8 v9 v10 v11 g) (r0 := (fun (o : Int32 × Int32) => o.1)) (by simp only [n_X9_drainedBalls, ← eo_1]) C hRT hP hD hS (Nat.le_of_ble_eq_true rfl) (Nat.le_of_ble_eq_true rfl) rfl rfl dX9_drainedBalls_11

def n_X9_tiltedBalls (g : Nat → Int32) : Int32 × Int32 :=
  let o_1 := n_X9_plain (g 15)
  (o_1.1, o_1.2)
def q_X9_tiltedBalls (cy : Nat → ClassId) (h0 : Nat) (h1 : Nat) (h2 : Nat) (h3 : Nat) (h4 : Nat) (h5 : Nat) (h6 : Nat) (h7 : Nat) (h8 : Nat) (h9 : Nat) (v2 : Int32) (v3 : Int32) (v4 : Int32) (v5 : Int32) (v6 : Int32) (v7 : Int32) (v8 : Int32) (v9 : Int32) (v10 : Int32) (v11 : Int32) (g : Nat → Int32) (o : Int32 × Int32) : va_W := [(h0, .inr (11, [.ref h1, .ref h2, .ref h3, .ref h4, .ref h5, .int o.2, .int v2, .int v3, .int v4, .int v5, .ref h6, .int v6, .ref h7, .ref h8, .ref h9, .int v7, .int v8, .int v9, .int v10, .int v11])), (h1, .inl (cy 0, 64, .inl (g)))]
set_option maxHeartbeats 4000000 in
set_option maxRecDepth 100000 in
theorem c_X9_tiltedBalls (l : Launch) {E : zEn} (hE : zEok E) (D : zG) (cy : Nat → ClassId) (h0 h1 h2 h3 h4 h5 h6 h7 h8 h9 : Nat) (v1 : Int32) (v2 : Int32) (v3 : Int32) (v4 : Int32) (v5 : Int32) (v6 : Int32) (v7 : Int32) (v8 : Int32) (v9 : Int32) (v10 : Int32) (v11 : Int32) (g : Nat → Int32)  (sz : Nat) : Met l yX9_tiltedBalls (zws yX9_tiltedBalls cX9_tiltedBalls 1 (some .int)) { frames := 1, cells := 0, slots := 0, locals := 21 } (zPre E D cy [.ref h0] [(h0, .inr (11, [.ref h1, .ref h2, .ref h3, .ref h4, .ref h5, .int v1, .int v2, .int v3, .int v4, .int v5, .ref h6, .int v6, .ref h7, .ref h8, .ref h9, .int v7, .int v8, .int v9, .int v10, .int v11])), (h1, .inl (cy 0, 64, .inl (g)))] sz) (zQi D ((q_X9_tiltedBalls cy h0 h1 h2 h3 h4 h5 h6 h7 h8 h9 v2 v3 v4 v5 v6 v7 v8 v9 v10 v11 g) (n_X9_tiltedBalls g)) (va_A [(h0, .inr (11, [.ref h1, .ref h2, .ref h3, .ref h4, .ref h5, .int v1, .int v2, .int v3, .int v4, .int v5, .ref h6, .int v6, .ref h7, .ref h8, .ref h9, .int v7, .int v8, .int v9, .int v10, .int v11])), (h1, .inl (cy 0, 64, .inl (g)))] sz) ((n_X9_tiltedBalls g).1)) 0 0 (va_A [(h0, .inr (11, [.ref h1, .ref h2, .ref h3, .ref h4, .ref h5, .int v1, .int v2, .int v3, .int v4, .int v5, .ref h6, .int v6, .ref h7, .ref h8, .ref h9, .int v7, .int v8, .int v9, .int v10, .int v11])), (h1, .inl (cy 0, 64, .inl (g)))] sz) := by
  refine z_of (Qc := fun A => zQi D ((q_X9_tiltedBalls cy h0 h1 h2 h3 h4 h5 h6 h7 h8 h9 v2 v3 v4 v5 v6 v7 v8 v9 v10 v11 g) (n_X9_tiltedBalls g)) A ((n_X9_tiltedBalls g).1)) (by decide +kernel) (Nat.le_of_ble_eq_true rfl) rfl ?_
  intro pG eN sT mI below meth cO A ls C hRT hnm hA hP hD hS hE0 hl
  have hX := C.x
  have hB := C.b
  refine lv_aload_n hX hB dX9_tiltedBalls_0 rfl (lv_at hl 0 rfl) ?_
  refine lv_aload_n hX hB dX9_tiltedBalls_1 rfl (lv_at hl 0 rfl) ?_
  refine fg_X9_7 C hP 0 rfl rfl dX9_tiltedBalls_2 ?_
  refine lv_bipush (v := 15) hX hB dX9_tiltedBalls_5 (by decide) ?_
  refine z_iald C hP 1 rfl (k := 15) (zlit 15) (by decide) (by decide) (v := g 15) rfl dX9_tiltedBalls_7 ?_
  refine z_callVi (isC := [0]) (isR := [1]) (isO := [1, 0]) (n_X9_plain (g 15)) (q_X9_plain h0 h1 h2 h3 h4 h5 h6 h7 h8 h9 v2 v3 v4 v5 v6 v7 v8 v9 v10 v11) (fun o_1 => [(h0, .inr (11, [.ref h1, .ref h2, .ref h3, .ref h4, .ref h5, .int o_1.2, .int v2, .int v3, .int v4, .int v5, .ref h6, .int v6, .ref h7, .ref h8, .ref h9, .int v7, .int v8, .int v9, .int v10, .int v11])), (h1, .inl (cy 0, 64, .inl (g)))]) (fun o_1 => o_1.1) (c_X9_plain l hE D cy h0 h1 h2 h3 h4 h5 h6 h7 h8 h9 v1 v2 v3 v4 v5 v6 v7 v8 v9 v10 v11 (g 15) ) hE C zs_X9_165 ⟨Nat.le_of_ble_eq_true rfl, Nat.le_of_ble_eq_true rfl⟩ hP hD hS hA hE0 ⟨rfl, rfl, rfl, by decide, rfl, rfl, rfl⟩ 0 rfl rfl rfl rfl hl.1 (Nat.le_of_ble_eq_true rfl) rfl dX9_tiltedBalls_8 ⟨Nat.le_of_ble_eq_true rfl, Nat.le_of_ble_eq_true rfl⟩ (fun o_1 H locs eo_1 hP hD hS => ?_)
  exact z_iret' (o_1.1, o_1.2) (w' := q_X9_tiltedBalls cy h0 h1 h2 h3 h4 h5 h6 h7 h8 h9 v2 v3 v4 v5 v6 v7 v8 v9 v10 v11 g) (r0 := (fun (o : Int32 × Int32) => o.1)) (by simp only [n_X9_tiltedBalls, ← eo_1]) C hRT hP hD hS (Nat.le_of_ble_eq_true rfl) (Nat.le_of_ble_eq_true rfl) rfl rfl dX9_tiltedBalls_11

def n_X9_isConsistent  : Int32 × Int32 :=
  let o_1 := n_X9_plain 1
  if o_1.1 = 1 then
    (1, o_1.2)
  else
    (0, o_1.2)
def q_X9_isConsistent (h0 : Nat) (h1 : Nat) (h2 : Nat) (h3 : Nat) (h4 : Nat) (h5 : Nat) (h6 : Nat) (h7 : Nat) (h8 : Nat) (h9 : Nat) (v2 : Int32) (v3 : Int32) (v4 : Int32) (v5 : Int32) (v6 : Int32) (v7 : Int32) (v8 : Int32) (v9 : Int32) (v10 : Int32) (v11 : Int32) (o : Int32 × Int32) : va_W := [(h0, .inr (11, [.ref h1, .ref h2, .ref h3, .ref h4, .ref h5, .int o.2, .int v2, .int v3, .int v4, .int v5, .ref h6, .int v6, .ref h7, .ref h8, .ref h9, .int v7, .int v8, .int v9, .int v10, .int v11]))]
set_option maxHeartbeats 4000000 in
set_option maxRecDepth 100000 in
theorem c_X9_isConsistent (l : Launch) {E : zEn} (hE : zEok E) (D : zG) (cy : Nat → ClassId) (h0 h1 h2 h3 h4 h5 h6 h7 h8 h9 : Nat) (v1 : Int32) (v2 : Int32) (v3 : Int32) (v4 : Int32) (v5 : Int32) (v6 : Int32) (v7 : Int32) (v8 : Int32) (v9 : Int32) (v10 : Int32) (v11 : Int32)  (sz : Nat) : Met l yX9_isConsistent (zws yX9_isConsistent cX9_isConsistent 1 (some .boolean)) { frames := 1, cells := 0, slots := 0, locals := 21 } (zPre E D cy [.ref h0] [(h0, .inr (11, [.ref h1, .ref h2, .ref h3, .ref h4, .ref h5, .int v1, .int v2, .int v3, .int v4, .int v5, .ref h6, .int v6, .ref h7, .ref h8, .ref h9, .int v7, .int v8, .int v9, .int v10, .int v11]))] sz) (zQi D ((q_X9_isConsistent h0 h1 h2 h3 h4 h5 h6 h7 h8 h9 v2 v3 v4 v5 v6 v7 v8 v9 v10 v11) n_X9_isConsistent) (va_A [(h0, .inr (11, [.ref h1, .ref h2, .ref h3, .ref h4, .ref h5, .int v1, .int v2, .int v3, .int v4, .int v5, .ref h6, .int v6, .ref h7, .ref h8, .ref h9, .int v7, .int v8, .int v9, .int v10, .int v11]))] sz) (n_X9_isConsistent.1)) 0 0 (va_A [(h0, .inr (11, [.ref h1, .ref h2, .ref h3, .ref h4, .ref h5, .int v1, .int v2, .int v3, .int v4, .int v5, .ref h6, .int v6, .ref h7, .ref h8, .ref h9, .int v7, .int v8, .int v9, .int v10, .int v11]))] sz) := by
  refine z_of (Qc := fun A => zQi D ((q_X9_isConsistent h0 h1 h2 h3 h4 h5 h6 h7 h8 h9 v2 v3 v4 v5 v6 v7 v8 v9 v10 v11) n_X9_isConsistent) A (n_X9_isConsistent.1)) (by decide +kernel) (Nat.le_of_ble_eq_true rfl) rfl ?_
  intro pG eN sT mI below meth cO A ls C hRT hnm hA hP hD hS hE0 hl
  have hX := C.x
  have hB := C.b
  refine lv_aload_n hX hB dX9_isConsistent_0 rfl (lv_at hl 0 rfl) ?_
  refine lv_iconst (v := 1) hX hB dX9_isConsistent_1 (by decide) ?_
  refine z_callVi (isC := [0]) (isR := []) (isO := [0]) (n_X9_plain 1) (q_X9_plain h0 h1 h2 h3 h4 h5 h6 h7 h8 h9 v2 v3 v4 v5 v6 v7 v8 v9 v10 v11) (fun o_1 => [(h0, .inr (11, [.ref h1, .ref h2, .ref h3, .ref h4, .ref h5, .int o_1.2, .int v2, .int v3, .int v4, .int v5, .ref h6, .int v6, .ref h7, .ref h8, .ref h9, .int v7, .int v8, .int v9, .int v10, .int v11]))]) (fun o_1 => o_1.1) (c_X9_plain l hE D cy h0 h1 h2 h3 h4 h5 h6 h7 h8 h9 v1 v2 v3 v4 v5 v6 v7 v8 v9 v10 v11 1 ) hE C zs_X9_165 ⟨Nat.le_of_ble_eq_true rfl, Nat.le_of_ble_eq_true rfl⟩ hP hD hS hA hE0 ⟨rfl, rfl, rfl, by decide, rfl, rfl, rfl⟩ 0 rfl rfl rfl rfl hl.1 (Nat.le_of_ble_eq_true rfl) rfl dX9_isConsistent_2 ⟨Nat.le_of_ble_eq_true rfl, Nat.le_of_ble_eq_true rfl⟩ (fun o_1 H locs eo_1 hP hD hS => ?_)
  refine lv_iconst (v := 1) hX hB dX9_isConsistent_5 (by decide) ?_
  refine lv_icmp_ne (tgt := 13) hX hB dX9_isConsistent_6 (by decide) (fun c_2 => ?_) (fun c_2 => ?_)
  · refine lv_iconst (v := 0) hX hB dX9_isConsistent_13 (by decide) ?_
    exact z_zret' (0, o_1.2) (w' := q_X9_isConsistent h0 h1 h2 h3 h4 h5 h6 h7 h8 h9 v2 v3 v4 v5 v6 v7 v8 v9 v10 v11) (r0 := (fun (o : Int32 × Int32) => o.1)) (by simp only [n_X9_isConsistent, ← eo_1, if_neg c_2]) C hRT (zb01 (Or.inl rfl)) hP hD hS (Nat.le_of_ble_eq_true rfl) (Nat.le_of_ble_eq_true rfl) rfl rfl dX9_isConsistent_14
  · refine lv_iconst (v := 1) hX hB dX9_isConsistent_9 (by decide) ?_
    refine lv_goto (tgt := 14) hX hB dX9_isConsistent_10 (by decide) ?_
    exact z_zret' (1, o_1.2) (w' := q_X9_isConsistent h0 h1 h2 h3 h4 h5 h6 h7 h8 h9 v2 v3 v4 v5 v6 v7 v8 v9 v10 v11) (r0 := (fun (o : Int32 × Int32) => o.1)) (by simp only [n_X9_isConsistent, ← eo_1, if_pos c_2]) C hRT (zb01 (Or.inr rfl)) hP hD hS (Nat.le_of_ble_eq_true rfl) (Nat.le_of_ble_eq_true rfl) rfl rfl dX9_isConsistent_14

def n_X9_lanes (g : Nat → Int32) : Int32 :=
  let o_1 := n_X9_isTilt g
  if o_1 = 0 then
    (100 * ((((0 + (1 - (g 16))) + (1 - (g 17))) + (1 - (g 18))) + (1 - (g 19)))) * (g 5)
  else
    0
def q_X9_lanes (cy : Nat → ClassId) (h0 : Nat) (h1 : Nat) (h2 : Nat) (h3 : Nat) (h4 : Nat) (h5 : Nat) (h6 : Nat) (h7 : Nat) (h8 : Nat) (h9 : Nat) (v1 : Int32) (v2 : Int32) (v3 : Int32) (v4 : Int32) (v5 : Int32) (v6 : Int32) (v7 : Int32) (v8 : Int32) (v9 : Int32) (v10 : Int32) (v11 : Int32) (g : Nat → Int32) (o : Int32) : va_W := [(h0, .inr (11, [.ref h1, .ref h2, .ref h3, .ref h4, .ref h5, .int v1, .int v2, .int v3, .int v4, .int v5, .ref h6, .int v6, .ref h7, .ref h8, .ref h9, .int v7, .int v8, .int v9, .int v10, .int v11])), (h1, .inl (cy 0, 64, .inl (g)))]
set_option maxHeartbeats 4000000 in
set_option maxRecDepth 100000 in
theorem c_X9_lanes (l : Launch) {E : zEn} (hE : zEok E) (D : zG) (cy : Nat → ClassId) (h0 h1 h2 h3 h4 h5 h6 h7 h8 h9 : Nat) (v1 : Int32) (v2 : Int32) (v3 : Int32) (v4 : Int32) (v5 : Int32) (v6 : Int32) (v7 : Int32) (v8 : Int32) (v9 : Int32) (v10 : Int32) (v11 : Int32) (g : Nat → Int32)  (sz : Nat) : Met l yX9_lanes (zws yX9_lanes cX9_lanes 3 (some .int)) { frames := 1, cells := 0, slots := 0, locals := 20 } (zPre E D cy [.ref h0] [(h0, .inr (11, [.ref h1, .ref h2, .ref h3, .ref h4, .ref h5, .int v1, .int v2, .int v3, .int v4, .int v5, .ref h6, .int v6, .ref h7, .ref h8, .ref h9, .int v7, .int v8, .int v9, .int v10, .int v11])), (h1, .inl (cy 0, 64, .inl (g)))] sz) (zQi D ((q_X9_lanes cy h0 h1 h2 h3 h4 h5 h6 h7 h8 h9 v1 v2 v3 v4 v5 v6 v7 v8 v9 v10 v11 g) (n_X9_lanes g)) (va_A [(h0, .inr (11, [.ref h1, .ref h2, .ref h3, .ref h4, .ref h5, .int v1, .int v2, .int v3, .int v4, .int v5, .ref h6, .int v6, .ref h7, .ref h8, .ref h9, .int v7, .int v8, .int v9, .int v10, .int v11])), (h1, .inl (cy 0, 64, .inl (g)))] sz) ((n_X9_lanes g))) 0 0 (va_A [(h0, .inr (11, [.ref h1, .ref h2, .ref h3, .ref h4, .ref h5, .int v1, .int v2, .int v3, .int v4, .int v5, .ref h6, .int v6, .ref h7, .ref h8, .ref h9, .int v7, .int v8, .int v9, .int v10, .int v11])), (h1, .inl (cy 0, 64, .inl (g)))] sz) := by
  refine z_of (Qc := fun A => zQi D ((q_X9_lanes cy h0 h1 h2 h3 h4 h5 h6 h7 h8 h9 v1 v2 v3 v4 v5 v6 v7 v8 v9 v10 v11 g) (n_X9_lanes g)) A ((n_X9_lanes g))) (by decide +kernel) (Nat.le_of_ble_eq_true rfl) rfl ?_
  intro pG eN sT mI below meth cO A ls C hRT hnm hA hP hD hS hE0 hl
  have hX := C.x
  have hB := C.b
  refine lv_iconst (v := 0) hX hB dX9_lanes_0 (by decide) ?_
  refine lv_istore_n (lv' := [(1, .int 0), (0, .ref h0)]) hX hB dX9_lanes_1 rfl hl (by decide) rfl (fun ls hl => ?_)
  refine lv_iconst (v := 0) hX hB dX9_lanes_2 (by decide) ?_
  refine lv_istore_n (lv' := [(2, .int 0), (1, .int 0), (0, .ref h0)]) hX hB dX9_lanes_3 rfl hl (by decide) rfl (fun ls hl => ?_)
  refine lv_iload_n hX hB dX9_lanes_4 rfl (lv_at hl 0 rfl) ?_
  refine lv_iconst (v := 4) hX hB dX9_lanes_5 (by decide) ?_
  refine lv_icmp_ge (tgt := 29) hX hB dX9_lanes_6 (by decide) (fun c => absurd c (by decide)) (fun _ => ?_)
  refine lv_iload_n hX hB dX9_lanes_9 rfl (lv_at hl 1 rfl) ?_
  refine lv_iconst (v := 1) hX hB dX9_lanes_10 (by decide) ?_
  refine lv_aload_n hX hB dX9_lanes_11 rfl (lv_at hl 2 rfl) ?_
  refine fg_X9_7 C hP 0 rfl rfl dX9_lanes_12 ?_
  refine lv_bipush (v := 16) hX hB dX9_lanes_15 (by decide) ?_
  refine lv_iload_n hX hB dX9_lanes_17 rfl (lv_at hl 0 rfl) ?_
  refine z_iadd (v := 16) C dX9_lanes_18 (by decide) ?_
  refine z_iald C hP 1 rfl (k := 16) (zlit 16) (by decide) (by decide) (v := g 16) rfl dX9_lanes_19 ?_
  refine z_isub (v := 1 - (g 16)) C dX9_lanes_20 rfl ?_
  refine z_iadd (v := 0 + (1 - (g 16))) C dX9_lanes_21 rfl ?_
  refine lv_istore_n (lv' := [(1, .int (0 + (1 - (g 16)))), (2, .int 0), (0, .ref h0)]) hX hB dX9_lanes_22 rfl hl (by decide) rfl (fun ls hl => ?_)
  refine lv_iinc (v := 1) (lv' := [(2, .int 1), (1, .int (0 + (1 - (g 16)))), (0, .ref h0)]) hX hB dX9_lanes_23 hl (k := 1) rfl (by decide) (by decide) rfl (fun ls hl => ?_)
  refine lv_goto (tgt := 4) hX hB dX9_lanes_26 (by decide) ?_
  refine lv_iload_n hX hB dX9_lanes_4 rfl (lv_at hl 0 rfl) ?_
  refine lv_iconst (v := 4) hX hB dX9_lanes_5 (by decide) ?_
  refine lv_icmp_ge (tgt := 29) hX hB dX9_lanes_6 (by decide) (fun c => absurd c (by decide)) (fun _ => ?_)
  refine lv_iload_n hX hB dX9_lanes_9 rfl (lv_at hl 1 rfl) ?_
  refine lv_iconst (v := 1) hX hB dX9_lanes_10 (by decide) ?_
  refine lv_aload_n hX hB dX9_lanes_11 rfl (lv_at hl 2 rfl) ?_
  refine fg_X9_7 C hP 0 rfl rfl dX9_lanes_12 ?_
  refine lv_bipush (v := 16) hX hB dX9_lanes_15 (by decide) ?_
  refine lv_iload_n hX hB dX9_lanes_17 rfl (lv_at hl 0 rfl) ?_
  refine z_iadd (v := 17) C dX9_lanes_18 (by decide) ?_
  refine z_iald C hP 1 rfl (k := 17) (zlit 17) (by decide) (by decide) (v := g 17) rfl dX9_lanes_19 ?_
  refine z_isub (v := 1 - (g 17)) C dX9_lanes_20 rfl ?_
  refine z_iadd (v := (0 + (1 - (g 16))) + (1 - (g 17))) C dX9_lanes_21 rfl ?_
  refine lv_istore_n (lv' := [(1, .int ((0 + (1 - (g 16))) + (1 - (g 17)))), (2, .int 1), (0, .ref h0)]) hX hB dX9_lanes_22 rfl hl (by decide) rfl (fun ls hl => ?_)
  refine lv_iinc (v := 2) (lv' := [(2, .int 2), (1, .int ((0 + (1 - (g 16))) + (1 - (g 17)))), (0, .ref h0)]) hX hB dX9_lanes_23 hl (k := 1) rfl (by decide) (by decide) rfl (fun ls hl => ?_)
  refine lv_goto (tgt := 4) hX hB dX9_lanes_26 (by decide) ?_
  refine lv_iload_n hX hB dX9_lanes_4 rfl (lv_at hl 0 rfl) ?_
  refine lv_iconst (v := 4) hX hB dX9_lanes_5 (by decide) ?_
  refine lv_icmp_ge (tgt := 29) hX hB dX9_lanes_6 (by decide) (fun c => absurd c (by decide)) (fun _ => ?_)
  refine lv_iload_n hX hB dX9_lanes_9 rfl (lv_at hl 1 rfl) ?_
  refine lv_iconst (v := 1) hX hB dX9_lanes_10 (by decide) ?_
  refine lv_aload_n hX hB dX9_lanes_11 rfl (lv_at hl 2 rfl) ?_
  refine fg_X9_7 C hP 0 rfl rfl dX9_lanes_12 ?_
  refine lv_bipush (v := 16) hX hB dX9_lanes_15 (by decide) ?_
  refine lv_iload_n hX hB dX9_lanes_17 rfl (lv_at hl 0 rfl) ?_
  refine z_iadd (v := 18) C dX9_lanes_18 (by decide) ?_
  refine z_iald C hP 1 rfl (k := 18) (zlit 18) (by decide) (by decide) (v := g 18) rfl dX9_lanes_19 ?_
  refine z_isub (v := 1 - (g 18)) C dX9_lanes_20 rfl ?_
  refine z_iadd (v := ((0 + (1 - (g 16))) + (1 - (g 17))) + (1 - (g 18))) C dX9_lanes_21 rfl ?_
  refine lv_istore_n (lv' := [(1, .int (((0 + (1 - (g 16))) + (1 - (g 17))) + (1 - (g 18)))), (2, .int 2), (0, .ref h0)]) hX hB dX9_lanes_22 rfl hl (by decide) rfl (fun ls hl => ?_)
  refine lv_iinc (v := 3) (lv' := [(2, .int 3), (1, .int (((0 + (1 - (g 16))) + (1 - (g 17))) + (1 - (g 18)))), (0, .ref h0)]) hX hB dX9_lanes_23 hl (k := 1) rfl (by decide) (by decide) rfl (fun ls hl => ?_)
  refine lv_goto (tgt := 4) hX hB dX9_lanes_26 (by decide) ?_
  refine lv_iload_n hX hB dX9_lanes_4 rfl (lv_at hl 0 rfl) ?_
  refine lv_iconst (v := 4) hX hB dX9_lanes_5 (by decide) ?_
  refine lv_icmp_ge (tgt := 29) hX hB dX9_lanes_6 (by decide) (fun c => absurd c (by decide)) (fun _ => ?_)
  refine lv_iload_n hX hB dX9_lanes_9 rfl (lv_at hl 1 rfl) ?_
  refine lv_iconst (v := 1) hX hB dX9_lanes_10 (by decide) ?_
  refine lv_aload_n hX hB dX9_lanes_11 rfl (lv_at hl 2 rfl) ?_
  refine fg_X9_7 C hP 0 rfl rfl dX9_lanes_12 ?_
  refine lv_bipush (v := 16) hX hB dX9_lanes_15 (by decide) ?_
  refine lv_iload_n hX hB dX9_lanes_17 rfl (lv_at hl 0 rfl) ?_
  refine z_iadd (v := 19) C dX9_lanes_18 (by decide) ?_
  refine z_iald C hP 1 rfl (k := 19) (zlit 19) (by decide) (by decide) (v := g 19) rfl dX9_lanes_19 ?_
  refine z_isub (v := 1 - (g 19)) C dX9_lanes_20 rfl ?_
  refine z_iadd (v := (((0 + (1 - (g 16))) + (1 - (g 17))) + (1 - (g 18))) + (1 - (g 19))) C dX9_lanes_21 rfl ?_
  refine lv_istore_n (lv' := [(1, .int ((((0 + (1 - (g 16))) + (1 - (g 17))) + (1 - (g 18))) + (1 - (g 19)))), (2, .int 3), (0, .ref h0)]) hX hB dX9_lanes_22 rfl hl (by decide) rfl (fun ls hl => ?_)
  refine lv_iinc (v := 4) (lv' := [(2, .int 4), (1, .int ((((0 + (1 - (g 16))) + (1 - (g 17))) + (1 - (g 18))) + (1 - (g 19)))), (0, .ref h0)]) hX hB dX9_lanes_23 hl (k := 1) rfl (by decide) (by decide) rfl (fun ls hl => ?_)
  refine lv_goto (tgt := 4) hX hB dX9_lanes_26 (by decide) ?_
  refine lv_iload_n hX hB dX9_lanes_4 rfl (lv_at hl 0 rfl) ?_
  refine lv_iconst (v := 4) hX hB dX9_lanes_5 (by decide) ?_
  refine lv_icmp_ge (tgt := 29) hX hB dX9_lanes_6 (by decide) (fun _ => ?_) (fun c => absurd (by decide) c)
  refine lv_aload_n hX hB dX9_lanes_29 rfl (lv_at hl 2 rfl) ?_
  refine z_callVi (isC := [0, 1]) (isR := []) (isO := [0, 1]) (n_X9_isTilt g) (q_X9_isTilt cy h0 h1 h2 h3 h4 h5 h6 h7 h8 h9 v1 v2 v3 v4 v5 v6 v7 v8 v9 v10 v11 g) (fun o_1 => [(h0, .inr (11, [.ref h1, .ref h2, .ref h3, .ref h4, .ref h5, .int v1, .int v2, .int v3, .int v4, .int v5, .ref h6, .int v6, .ref h7, .ref h8, .ref h9, .int v7, .int v8, .int v9, .int v10, .int v11])), (h1, .inl (cy 0, 64, .inl (g)))]) (fun o_1 => o_1) (c_X9_isTilt l hE D cy h0 h1 h2 h3 h4 h5 h6 h7 h8 h9 v1 v2 v3 v4 v5 v6 v7 v8 v9 v10 v11 g ) hE C zs_X9_113 ⟨Nat.le_of_ble_eq_true rfl, Nat.le_of_ble_eq_true rfl⟩ hP hD hS hA hE0 ⟨rfl, rfl, rfl, by decide, rfl, rfl, rfl⟩ 0 rfl rfl rfl rfl hl.1 (Nat.le_of_ble_eq_true rfl) rfl dX9_lanes_30 ⟨Nat.le_of_ble_eq_true rfl, Nat.le_of_ble_eq_true rfl⟩ (fun o_1 H locs eo_1 hP hD hS => ?_)
  refine lv_if_eq (tgt := 40) hX hB dX9_lanes_33 (by decide) (fun c_2 => ?_) (fun c_2 => ?_)
  · refine lv_bipush (v := 100) hX hB dX9_lanes_40 (by decide) ?_
    refine lv_iload_n hX hB dX9_lanes_42 rfl (lv_at hl 1 rfl) ?_
    refine z_imul (v := 100 * ((((0 + (1 - (g 16))) + (1 - (g 17))) + (1 - (g 18))) + (1 - (g 19)))) C dX9_lanes_43 rfl ?_
    refine lv_aload_n hX hB dX9_lanes_44 rfl (lv_at hl 2 rfl) ?_
    refine fg_X9_7 C hP 0 rfl rfl dX9_lanes_45 ?_
    refine lv_iconst (v := 5) hX hB dX9_lanes_48 (by decide) ?_
    refine z_iald C hP 1 rfl (k := 5) (zlit 5) (by decide) (by decide) (v := g 5) rfl dX9_lanes_49 ?_
    refine z_imul (v := (100 * ((((0 + (1 - (g 16))) + (1 - (g 17))) + (1 - (g 18))) + (1 - (g 19)))) * (g 5)) C dX9_lanes_50 rfl ?_
    exact z_iret' ((100 * ((((0 + (1 - (g 16))) + (1 - (g 17))) + (1 - (g 18))) + (1 - (g 19)))) * (g 5)) (w' := q_X9_lanes cy h0 h1 h2 h3 h4 h5 h6 h7 h8 h9 v1 v2 v3 v4 v5 v6 v7 v8 v9 v10 v11 g) (r0 := (fun (o : Int32) => o)) (by simp only [n_X9_lanes, ← eo_1, if_pos c_2]) C hRT hP hD hS (Nat.le_of_ble_eq_true rfl) (Nat.le_of_ble_eq_true rfl) rfl rfl dX9_lanes_51
  · refine lv_iconst (v := 0) hX hB dX9_lanes_36 (by decide) ?_
    refine lv_goto (tgt := 51) hX hB dX9_lanes_37 (by decide) ?_
    exact z_iret' 0 (w' := q_X9_lanes cy h0 h1 h2 h3 h4 h5 h6 h7 h8 h9 v1 v2 v3 v4 v5 v6 v7 v8 v9 v10 v11 g) (r0 := (fun (o : Int32) => o)) (by simp only [n_X9_lanes, ← eo_1, if_neg c_2]) C hRT hP hD hS (Nat.le_of_ble_eq_true rfl) (Nat.le_of_ble_eq_true rfl) rfl rfl dX9_lanes_51

def n_X9_currentPlayer_ok (g : Nat → Int32) : Int32 × Int32 :=
  let o_1 := n_X9_running_ok (g 3)
  (o_1.1, o_1.2)
def q_X9_currentPlayer_ok (cy : Nat → ClassId) (h0 : Nat) (h1 : Nat) (h2 : Nat) (h3 : Nat) (h4 : Nat) (h5 : Nat) (h6 : Nat) (h7 : Nat) (h8 : Nat) (h9 : Nat) (v2 : Int32) (v3 : Int32) (v4 : Int32) (v5 : Int32) (v6 : Int32) (v7 : Int32) (v8 : Int32) (v9 : Int32) (v10 : Int32) (v11 : Int32) (g : Nat → Int32) (o : Int32 × Int32) : va_W := [(h0, .inr (11, [.ref h1, .ref h2, .ref h3, .ref h4, .ref h5, .int o.2, .int v2, .int v3, .int v4, .int v5, .ref h6, .int v6, .ref h7, .ref h8, .ref h9, .int v7, .int v8, .int v9, .int v10, .int v11])), (h1, .inl (cy 0, 64, .inl (g)))]
set_option maxHeartbeats 4000000 in
set_option maxRecDepth 100000 in
theorem c_X9_currentPlayer_ok (l : Launch) {E : zEn} (hE : zEok E) (D : zG) (cy : Nat → ClassId) (h0 h1 h2 h3 h4 h5 h6 h7 h8 h9 : Nat) (v1 : Int32) (v2 : Int32) (v3 : Int32) (v4 : Int32) (v5 : Int32) (v6 : Int32) (v7 : Int32) (v8 : Int32) (v9 : Int32) (v10 : Int32) (v11 : Int32) (g : Nat → Int32) (hr : g 0 = 1) (sz : Nat) : Met l yX9_currentPlayer (zws yX9_currentPlayer cX9_currentPlayer 1 (some .int)) { frames := 2, cells := 0, slots := 0, locals := 41 } (zPre E D cy [.ref h0] [(h0, .inr (11, [.ref h1, .ref h2, .ref h3, .ref h4, .ref h5, .int v1, .int v2, .int v3, .int v4, .int v5, .ref h6, .int v6, .ref h7, .ref h8, .ref h9, .int v7, .int v8, .int v9, .int v10, .int v11])), (h1, .inl (cy 0, 64, .inl (g)))] sz) (zQi D ((q_X9_currentPlayer_ok cy h0 h1 h2 h3 h4 h5 h6 h7 h8 h9 v2 v3 v4 v5 v6 v7 v8 v9 v10 v11 g) (n_X9_currentPlayer_ok g)) (va_A [(h0, .inr (11, [.ref h1, .ref h2, .ref h3, .ref h4, .ref h5, .int v1, .int v2, .int v3, .int v4, .int v5, .ref h6, .int v6, .ref h7, .ref h8, .ref h9, .int v7, .int v8, .int v9, .int v10, .int v11])), (h1, .inl (cy 0, 64, .inl (g)))] sz) ((n_X9_currentPlayer_ok g).1)) 0 0 (va_A [(h0, .inr (11, [.ref h1, .ref h2, .ref h3, .ref h4, .ref h5, .int v1, .int v2, .int v3, .int v4, .int v5, .ref h6, .int v6, .ref h7, .ref h8, .ref h9, .int v7, .int v8, .int v9, .int v10, .int v11])), (h1, .inl (cy 0, 64, .inl (g)))] sz) := by
  refine z_of (Qc := fun A => zQi D ((q_X9_currentPlayer_ok cy h0 h1 h2 h3 h4 h5 h6 h7 h8 h9 v2 v3 v4 v5 v6 v7 v8 v9 v10 v11 g) (n_X9_currentPlayer_ok g)) A ((n_X9_currentPlayer_ok g).1)) (by decide +kernel) (Nat.le_of_ble_eq_true rfl) rfl ?_
  intro pG eN sT mI below meth cO A ls C hRT hnm hA hP hD hS hE0 hl
  have hX := C.x
  have hB := C.b
  refine lv_aload_n hX hB dX9_currentPlayer_0 rfl (lv_at hl 0 rfl) ?_
  refine lv_aload_n hX hB dX9_currentPlayer_1 rfl (lv_at hl 0 rfl) ?_
  refine fg_X9_7 C hP 0 rfl rfl dX9_currentPlayer_2 ?_
  refine lv_iconst (v := 3) hX hB dX9_currentPlayer_5 (by decide) ?_
  refine z_iald C hP 1 rfl (k := 3) (zlit 3) (by decide) (by decide) (v := g 3) rfl dX9_currentPlayer_6 ?_
  refine z_callVi (isC := [0, 1]) (isR := []) (isO := [0, 1]) (n_X9_running_ok (g 3)) (q_X9_running_ok cy h0 h1 h2 h3 h4 h5 h6 h7 h8 h9 v2 v3 v4 v5 v6 v7 v8 v9 v10 v11 g) (fun o_1 => [(h0, .inr (11, [.ref h1, .ref h2, .ref h3, .ref h4, .ref h5, .int o_1.2, .int v2, .int v3, .int v4, .int v5, .ref h6, .int v6, .ref h7, .ref h8, .ref h9, .int v7, .int v8, .int v9, .int v10, .int v11])), (h1, .inl (cy 0, 64, .inl (g)))]) (fun o_1 => o_1.1) (c_X9_running_ok l hE D cy h0 h1 h2 h3 h4 h5 h6 h7 h8 h9 v1 v2 v3 v4 v5 v6 v7 v8 v9 v10 v11 g (g 3) hr) hE C zs_X9_168 ⟨Nat.le_of_ble_eq_true rfl, Nat.le_of_ble_eq_true rfl⟩ hP hD hS hA hE0 ⟨rfl, rfl, rfl, by decide, rfl, rfl, rfl⟩ 0 rfl rfl rfl rfl hl.1 (Nat.le_of_ble_eq_true rfl) rfl dX9_currentPlayer_7 ⟨Nat.le_of_ble_eq_true rfl, Nat.le_of_ble_eq_true rfl⟩ (fun o_1 H locs eo_1 hP hD hS => ?_)
  exact z_iret' (o_1.1, o_1.2) (w' := q_X9_currentPlayer_ok cy h0 h1 h2 h3 h4 h5 h6 h7 h8 h9 v2 v3 v4 v5 v6 v7 v8 v9 v10 v11 g) (r0 := (fun (o : Int32 × Int32) => o.1)) (by simp only [n_X9_currentPlayer_ok, ← eo_1]) C hRT hP hD hS (Nat.le_of_ble_eq_true rfl) (Nat.le_of_ble_eq_true rfl) rfl rfl dX9_currentPlayer_10

def n_X9_currentPlayer_1  : Int32 :=
  let o_1 := n_X9_running_1
  o_1
def q_X9_currentPlayer_1 (cy : Nat → ClassId) (h0 : Nat) (h1 : Nat) (h2 : Nat) (h3 : Nat) (h4 : Nat) (h5 : Nat) (h6 : Nat) (h7 : Nat) (h8 : Nat) (h9 : Nat) (v2 : Int32) (v3 : Int32) (v4 : Int32) (v5 : Int32) (v6 : Int32) (v7 : Int32) (v8 : Int32) (v9 : Int32) (v10 : Int32) (v11 : Int32) (g : Nat → Int32) (o : Int32) : va_W := [(h0, .inr (11, [.ref h1, .ref h2, .ref h3, .ref h4, .ref h5, .int o, .int v2, .int v3, .int v4, .int v5, .ref h6, .int v6, .ref h7, .ref h8, .ref h9, .int v7, .int v8, .int v9, .int v10, .int v11])), (h1, .inl (cy 0, 64, .inl (g)))]
set_option maxHeartbeats 4000000 in
set_option maxRecDepth 100000 in
theorem c_X9_currentPlayer_1 (l : Launch) {E : zEn} (hE : zEok E) (D : zG) (cy : Nat → ClassId) (h0 h1 h2 h3 h4 h5 h6 h7 h8 h9 : Nat) (v1 : Int32) (v2 : Int32) (v3 : Int32) (v4 : Int32) (v5 : Int32) (v6 : Int32) (v7 : Int32) (v8 : Int32) (v9 : Int32) (v10 : Int32) (v11 : Int32) (g : Nat → Int32) (hr : ¬ g 0 = 1) (sz : Nat) : Met l yX9_currentPlayer (zws yX9_currentPlayer cX9_currentPlayer 1 (some .int)) { frames := 2, cells := 0, slots := 0, locals := 41 } (zPre E D cy [.ref h0] [(h0, .inr (11, [.ref h1, .ref h2, .ref h3, .ref h4, .ref h5, .int v1, .int v2, .int v3, .int v4, .int v5, .ref h6, .int v6, .ref h7, .ref h8, .ref h9, .int v7, .int v8, .int v9, .int v10, .int v11])), (h1, .inl (cy 0, 64, .inl (g)))] sz) (zQi D ((q_X9_currentPlayer_1 cy h0 h1 h2 h3 h4 h5 h6 h7 h8 h9 v2 v3 v4 v5 v6 v7 v8 v9 v10 v11 g) n_X9_currentPlayer_1) (va_A [(h0, .inr (11, [.ref h1, .ref h2, .ref h3, .ref h4, .ref h5, .int v1, .int v2, .int v3, .int v4, .int v5, .ref h6, .int v6, .ref h7, .ref h8, .ref h9, .int v7, .int v8, .int v9, .int v10, .int v11])), (h1, .inl (cy 0, 64, .inl (g)))] sz) (0)) 0 0 (va_A [(h0, .inr (11, [.ref h1, .ref h2, .ref h3, .ref h4, .ref h5, .int v1, .int v2, .int v3, .int v4, .int v5, .ref h6, .int v6, .ref h7, .ref h8, .ref h9, .int v7, .int v8, .int v9, .int v10, .int v11])), (h1, .inl (cy 0, 64, .inl (g)))] sz) := by
  refine z_of (Qc := fun A => zQi D ((q_X9_currentPlayer_1 cy h0 h1 h2 h3 h4 h5 h6 h7 h8 h9 v2 v3 v4 v5 v6 v7 v8 v9 v10 v11 g) n_X9_currentPlayer_1) A (0)) (by decide +kernel) (Nat.le_of_ble_eq_true rfl) rfl ?_
  intro pG eN sT mI below meth cO A ls C hRT hnm hA hP hD hS hE0 hl
  have hX := C.x
  have hB := C.b
  refine lv_aload_n hX hB dX9_currentPlayer_0 rfl (lv_at hl 0 rfl) ?_
  refine lv_aload_n hX hB dX9_currentPlayer_1 rfl (lv_at hl 0 rfl) ?_
  refine fg_X9_7 C hP 0 rfl rfl dX9_currentPlayer_2 ?_
  refine lv_iconst (v := 3) hX hB dX9_currentPlayer_5 (by decide) ?_
  refine z_iald C hP 1 rfl (k := 3) (zlit 3) (by decide) (by decide) (v := g 3) rfl dX9_currentPlayer_6 ?_
  refine z_callVi (isC := [0, 1]) (isR := []) (isO := [0, 1]) (n_X9_running_1) (q_X9_running_1 cy h0 h1 h2 h3 h4 h5 h6 h7 h8 h9 v2 v3 v4 v5 v6 v7 v8 v9 v10 v11 g) (fun o_1 => [(h0, .inr (11, [.ref h1, .ref h2, .ref h3, .ref h4, .ref h5, .int o_1, .int v2, .int v3, .int v4, .int v5, .ref h6, .int v6, .ref h7, .ref h8, .ref h9, .int v7, .int v8, .int v9, .int v10, .int v11])), (h1, .inl (cy 0, 64, .inl (g)))]) (fun o_1 => 0) (c_X9_running_1 l hE D cy h0 h1 h2 h3 h4 h5 h6 h7 h8 h9 v1 v2 v3 v4 v5 v6 v7 v8 v9 v10 v11 g (g 3) hr) hE C zs_X9_168 ⟨Nat.le_of_ble_eq_true rfl, Nat.le_of_ble_eq_true rfl⟩ hP hD hS hA hE0 ⟨rfl, rfl, rfl, by decide, rfl, rfl, rfl⟩ 0 rfl rfl rfl rfl hl.1 (Nat.le_of_ble_eq_true rfl) rfl dX9_currentPlayer_7 ⟨Nat.le_of_ble_eq_true rfl, Nat.le_of_ble_eq_true rfl⟩ (fun o_1 H locs eo_1 hP hD hS => ?_)
  exact z_iret' o_1 (w' := q_X9_currentPlayer_1 cy h0 h1 h2 h3 h4 h5 h6 h7 h8 h9 v2 v3 v4 v5 v6 v7 v8 v9 v10 v11 g) (r0 := (fun (o : Int32) => 0)) (by simp only [n_X9_currentPlayer_1, ← eo_1]) C hRT hP hD hS (Nat.le_of_ble_eq_true rfl) (Nat.le_of_ble_eq_true rfl) rfl rfl dX9_currentPlayer_10

def n_X9_ballNumber_ok (g : Nat → Int32) : Int32 × Int32 :=
  let o_1 := n_X9_running_ok (g 4)
  (o_1.1, o_1.2)
def q_X9_ballNumber_ok (cy : Nat → ClassId) (h0 : Nat) (h1 : Nat) (h2 : Nat) (h3 : Nat) (h4 : Nat) (h5 : Nat) (h6 : Nat) (h7 : Nat) (h8 : Nat) (h9 : Nat) (v2 : Int32) (v3 : Int32) (v4 : Int32) (v5 : Int32) (v6 : Int32) (v7 : Int32) (v8 : Int32) (v9 : Int32) (v10 : Int32) (v11 : Int32) (g : Nat → Int32) (o : Int32 × Int32) : va_W := [(h0, .inr (11, [.ref h1, .ref h2, .ref h3, .ref h4, .ref h5, .int o.2, .int v2, .int v3, .int v4, .int v5, .ref h6, .int v6, .ref h7, .ref h8, .ref h9, .int v7, .int v8, .int v9, .int v10, .int v11])), (h1, .inl (cy 0, 64, .inl (g)))]
set_option maxHeartbeats 4000000 in
set_option maxRecDepth 100000 in
theorem c_X9_ballNumber_ok (l : Launch) {E : zEn} (hE : zEok E) (D : zG) (cy : Nat → ClassId) (h0 h1 h2 h3 h4 h5 h6 h7 h8 h9 : Nat) (v1 : Int32) (v2 : Int32) (v3 : Int32) (v4 : Int32) (v5 : Int32) (v6 : Int32) (v7 : Int32) (v8 : Int32) (v9 : Int32) (v10 : Int32) (v11 : Int32) (g : Nat → Int32) (hr : g 0 = 1) (sz : Nat) : Met l yX9_ballNumber (zws yX9_ballNumber cX9_ballNumber 1 (some .int)) { frames := 2, cells := 0, slots := 0, locals := 41 } (zPre E D cy [.ref h0] [(h0, .inr (11, [.ref h1, .ref h2, .ref h3, .ref h4, .ref h5, .int v1, .int v2, .int v3, .int v4, .int v5, .ref h6, .int v6, .ref h7, .ref h8, .ref h9, .int v7, .int v8, .int v9, .int v10, .int v11])), (h1, .inl (cy 0, 64, .inl (g)))] sz) (zQi D ((q_X9_ballNumber_ok cy h0 h1 h2 h3 h4 h5 h6 h7 h8 h9 v2 v3 v4 v5 v6 v7 v8 v9 v10 v11 g) (n_X9_ballNumber_ok g)) (va_A [(h0, .inr (11, [.ref h1, .ref h2, .ref h3, .ref h4, .ref h5, .int v1, .int v2, .int v3, .int v4, .int v5, .ref h6, .int v6, .ref h7, .ref h8, .ref h9, .int v7, .int v8, .int v9, .int v10, .int v11])), (h1, .inl (cy 0, 64, .inl (g)))] sz) ((n_X9_ballNumber_ok g).1)) 0 0 (va_A [(h0, .inr (11, [.ref h1, .ref h2, .ref h3, .ref h4, .ref h5, .int v1, .int v2, .int v3, .int v4, .int v5, .ref h6, .int v6, .ref h7, .ref h8, .ref h9, .int v7, .int v8, .int v9, .int v10, .int v11])), (h1, .inl (cy 0, 64, .inl (g)))] sz) := by
  refine z_of (Qc := fun A => zQi D ((q_X9_ballNumber_ok cy h0 h1 h2 h3 h4 h5 h6 h7 h8 h9 v2 v3 v4 v5 v6 v7 v8 v9 v10 v11 g) (n_X9_ballNumber_ok g)) A ((n_X9_ballNumber_ok g).1)) (by decide +kernel) (Nat.le_of_ble_eq_true rfl) rfl ?_
  intro pG eN sT mI below meth cO A ls C hRT hnm hA hP hD hS hE0 hl
  have hX := C.x
  have hB := C.b
  refine lv_aload_n hX hB dX9_ballNumber_0 rfl (lv_at hl 0 rfl) ?_
  refine lv_aload_n hX hB dX9_ballNumber_1 rfl (lv_at hl 0 rfl) ?_
  refine fg_X9_7 C hP 0 rfl rfl dX9_ballNumber_2 ?_
  refine lv_iconst (v := 4) hX hB dX9_ballNumber_5 (by decide) ?_
  refine z_iald C hP 1 rfl (k := 4) (zlit 4) (by decide) (by decide) (v := g 4) rfl dX9_ballNumber_6 ?_
  refine z_callVi (isC := [0, 1]) (isR := []) (isO := [0, 1]) (n_X9_running_ok (g 4)) (q_X9_running_ok cy h0 h1 h2 h3 h4 h5 h6 h7 h8 h9 v2 v3 v4 v5 v6 v7 v8 v9 v10 v11 g) (fun o_1 => [(h0, .inr (11, [.ref h1, .ref h2, .ref h3, .ref h4, .ref h5, .int o_1.2, .int v2, .int v3, .int v4, .int v5, .ref h6, .int v6, .ref h7, .ref h8, .ref h9, .int v7, .int v8, .int v9, .int v10, .int v11])), (h1, .inl (cy 0, 64, .inl (g)))]) (fun o_1 => o_1.1) (c_X9_running_ok l hE D cy h0 h1 h2 h3 h4 h5 h6 h7 h8 h9 v1 v2 v3 v4 v5 v6 v7 v8 v9 v10 v11 g (g 4) hr) hE C zs_X9_168 ⟨Nat.le_of_ble_eq_true rfl, Nat.le_of_ble_eq_true rfl⟩ hP hD hS hA hE0 ⟨rfl, rfl, rfl, by decide, rfl, rfl, rfl⟩ 0 rfl rfl rfl rfl hl.1 (Nat.le_of_ble_eq_true rfl) rfl dX9_ballNumber_7 ⟨Nat.le_of_ble_eq_true rfl, Nat.le_of_ble_eq_true rfl⟩ (fun o_1 H locs eo_1 hP hD hS => ?_)
  exact z_iret' (o_1.1, o_1.2) (w' := q_X9_ballNumber_ok cy h0 h1 h2 h3 h4 h5 h6 h7 h8 h9 v2 v3 v4 v5 v6 v7 v8 v9 v10 v11 g) (r0 := (fun (o : Int32 × Int32) => o.1)) (by simp only [n_X9_ballNumber_ok, ← eo_1]) C hRT hP hD hS (Nat.le_of_ble_eq_true rfl) (Nat.le_of_ble_eq_true rfl) rfl rfl dX9_ballNumber_10

def n_X9_ballNumber_1  : Int32 :=
  let o_1 := n_X9_running_1
  o_1
def q_X9_ballNumber_1 (cy : Nat → ClassId) (h0 : Nat) (h1 : Nat) (h2 : Nat) (h3 : Nat) (h4 : Nat) (h5 : Nat) (h6 : Nat) (h7 : Nat) (h8 : Nat) (h9 : Nat) (v2 : Int32) (v3 : Int32) (v4 : Int32) (v5 : Int32) (v6 : Int32) (v7 : Int32) (v8 : Int32) (v9 : Int32) (v10 : Int32) (v11 : Int32) (g : Nat → Int32) (o : Int32) : va_W := [(h0, .inr (11, [.ref h1, .ref h2, .ref h3, .ref h4, .ref h5, .int o, .int v2, .int v3, .int v4, .int v5, .ref h6, .int v6, .ref h7, .ref h8, .ref h9, .int v7, .int v8, .int v9, .int v10, .int v11])), (h1, .inl (cy 0, 64, .inl (g)))]
set_option maxHeartbeats 4000000 in
set_option maxRecDepth 100000 in
theorem c_X9_ballNumber_1 (l : Launch) {E : zEn} (hE : zEok E) (D : zG) (cy : Nat → ClassId) (h0 h1 h2 h3 h4 h5 h6 h7 h8 h9 : Nat) (v1 : Int32) (v2 : Int32) (v3 : Int32) (v4 : Int32) (v5 : Int32) (v6 : Int32) (v7 : Int32) (v8 : Int32) (v9 : Int32) (v10 : Int32) (v11 : Int32) (g : Nat → Int32) (hr : ¬ g 0 = 1) (sz : Nat) : Met l yX9_ballNumber (zws yX9_ballNumber cX9_ballNumber 1 (some .int)) { frames := 2, cells := 0, slots := 0, locals := 41 } (zPre E D cy [.ref h0] [(h0, .inr (11, [.ref h1, .ref h2, .ref h3, .ref h4, .ref h5, .int v1, .int v2, .int v3, .int v4, .int v5, .ref h6, .int v6, .ref h7, .ref h8, .ref h9, .int v7, .int v8, .int v9, .int v10, .int v11])), (h1, .inl (cy 0, 64, .inl (g)))] sz) (zQi D ((q_X9_ballNumber_1 cy h0 h1 h2 h3 h4 h5 h6 h7 h8 h9 v2 v3 v4 v5 v6 v7 v8 v9 v10 v11 g) n_X9_ballNumber_1) (va_A [(h0, .inr (11, [.ref h1, .ref h2, .ref h3, .ref h4, .ref h5, .int v1, .int v2, .int v3, .int v4, .int v5, .ref h6, .int v6, .ref h7, .ref h8, .ref h9, .int v7, .int v8, .int v9, .int v10, .int v11])), (h1, .inl (cy 0, 64, .inl (g)))] sz) (0)) 0 0 (va_A [(h0, .inr (11, [.ref h1, .ref h2, .ref h3, .ref h4, .ref h5, .int v1, .int v2, .int v3, .int v4, .int v5, .ref h6, .int v6, .ref h7, .ref h8, .ref h9, .int v7, .int v8, .int v9, .int v10, .int v11])), (h1, .inl (cy 0, 64, .inl (g)))] sz) := by
  refine z_of (Qc := fun A => zQi D ((q_X9_ballNumber_1 cy h0 h1 h2 h3 h4 h5 h6 h7 h8 h9 v2 v3 v4 v5 v6 v7 v8 v9 v10 v11 g) n_X9_ballNumber_1) A (0)) (by decide +kernel) (Nat.le_of_ble_eq_true rfl) rfl ?_
  intro pG eN sT mI below meth cO A ls C hRT hnm hA hP hD hS hE0 hl
  have hX := C.x
  have hB := C.b
  refine lv_aload_n hX hB dX9_ballNumber_0 rfl (lv_at hl 0 rfl) ?_
  refine lv_aload_n hX hB dX9_ballNumber_1 rfl (lv_at hl 0 rfl) ?_
  refine fg_X9_7 C hP 0 rfl rfl dX9_ballNumber_2 ?_
  refine lv_iconst (v := 4) hX hB dX9_ballNumber_5 (by decide) ?_
  refine z_iald C hP 1 rfl (k := 4) (zlit 4) (by decide) (by decide) (v := g 4) rfl dX9_ballNumber_6 ?_
  refine z_callVi (isC := [0, 1]) (isR := []) (isO := [0, 1]) (n_X9_running_1) (q_X9_running_1 cy h0 h1 h2 h3 h4 h5 h6 h7 h8 h9 v2 v3 v4 v5 v6 v7 v8 v9 v10 v11 g) (fun o_1 => [(h0, .inr (11, [.ref h1, .ref h2, .ref h3, .ref h4, .ref h5, .int o_1, .int v2, .int v3, .int v4, .int v5, .ref h6, .int v6, .ref h7, .ref h8, .ref h9, .int v7, .int v8, .int v9, .int v10, .int v11])), (h1, .inl (cy 0, 64, .inl (g)))]) (fun o_1 => 0) (c_X9_running_1 l hE D cy h0 h1 h2 h3 h4 h5 h6 h7 h8 h9 v1 v2 v3 v4 v5 v6 v7 v8 v9 v10 v11 g (g 4) hr) hE C zs_X9_168 ⟨Nat.le_of_ble_eq_true rfl, Nat.le_of_ble_eq_true rfl⟩ hP hD hS hA hE0 ⟨rfl, rfl, rfl, by decide, rfl, rfl, rfl⟩ 0 rfl rfl rfl rfl hl.1 (Nat.le_of_ble_eq_true rfl) rfl dX9_ballNumber_7 ⟨Nat.le_of_ble_eq_true rfl, Nat.le_of_ble_eq_true rfl⟩ (fun o_1 H locs eo_1 hP hD hS => ?_)
  exact z_iret' o_1 (w' := q_X9_ballNumber_1 cy h0 h1 h2 h3 h4 h5 h6 h7 h8 h9 v2 v3 v4 v5 v6 v7 v8 v9 v10 v11 g) (r0 := (fun (o : Int32) => 0)) (by simp only [n_X9_ballNumber_1, ← eo_1]) C hRT hP hD hS (Nat.le_of_ble_eq_true rfl) (Nat.le_of_ble_eq_true rfl) rfl rfl dX9_ballNumber_10

def n_X9_multiplier_ok (g : Nat → Int32) : Int32 × Int32 :=
  let o_1 := n_X9_running_ok (g 5)
  (o_1.1, o_1.2)
def q_X9_multiplier_ok (cy : Nat → ClassId) (h0 : Nat) (h1 : Nat) (h2 : Nat) (h3 : Nat) (h4 : Nat) (h5 : Nat) (h6 : Nat) (h7 : Nat) (h8 : Nat) (h9 : Nat) (v2 : Int32) (v3 : Int32) (v4 : Int32) (v5 : Int32) (v6 : Int32) (v7 : Int32) (v8 : Int32) (v9 : Int32) (v10 : Int32) (v11 : Int32) (g : Nat → Int32) (o : Int32 × Int32) : va_W := [(h0, .inr (11, [.ref h1, .ref h2, .ref h3, .ref h4, .ref h5, .int o.2, .int v2, .int v3, .int v4, .int v5, .ref h6, .int v6, .ref h7, .ref h8, .ref h9, .int v7, .int v8, .int v9, .int v10, .int v11])), (h1, .inl (cy 0, 64, .inl (g)))]
set_option maxHeartbeats 4000000 in
set_option maxRecDepth 100000 in
theorem c_X9_multiplier_ok (l : Launch) {E : zEn} (hE : zEok E) (D : zG) (cy : Nat → ClassId) (h0 h1 h2 h3 h4 h5 h6 h7 h8 h9 : Nat) (v1 : Int32) (v2 : Int32) (v3 : Int32) (v4 : Int32) (v5 : Int32) (v6 : Int32) (v7 : Int32) (v8 : Int32) (v9 : Int32) (v10 : Int32) (v11 : Int32) (g : Nat → Int32) (hr : g 0 = 1) (sz : Nat) : Met l yX9_multiplier (zws yX9_multiplier cX9_multiplier 1 (some .int)) { frames := 2, cells := 0, slots := 0, locals := 41 } (zPre E D cy [.ref h0] [(h0, .inr (11, [.ref h1, .ref h2, .ref h3, .ref h4, .ref h5, .int v1, .int v2, .int v3, .int v4, .int v5, .ref h6, .int v6, .ref h7, .ref h8, .ref h9, .int v7, .int v8, .int v9, .int v10, .int v11])), (h1, .inl (cy 0, 64, .inl (g)))] sz) (zQi D ((q_X9_multiplier_ok cy h0 h1 h2 h3 h4 h5 h6 h7 h8 h9 v2 v3 v4 v5 v6 v7 v8 v9 v10 v11 g) (n_X9_multiplier_ok g)) (va_A [(h0, .inr (11, [.ref h1, .ref h2, .ref h3, .ref h4, .ref h5, .int v1, .int v2, .int v3, .int v4, .int v5, .ref h6, .int v6, .ref h7, .ref h8, .ref h9, .int v7, .int v8, .int v9, .int v10, .int v11])), (h1, .inl (cy 0, 64, .inl (g)))] sz) ((n_X9_multiplier_ok g).1)) 0 0 (va_A [(h0, .inr (11, [.ref h1, .ref h2, .ref h3, .ref h4, .ref h5, .int v1, .int v2, .int v3, .int v4, .int v5, .ref h6, .int v6, .ref h7, .ref h8, .ref h9, .int v7, .int v8, .int v9, .int v10, .int v11])), (h1, .inl (cy 0, 64, .inl (g)))] sz) := by
  refine z_of (Qc := fun A => zQi D ((q_X9_multiplier_ok cy h0 h1 h2 h3 h4 h5 h6 h7 h8 h9 v2 v3 v4 v5 v6 v7 v8 v9 v10 v11 g) (n_X9_multiplier_ok g)) A ((n_X9_multiplier_ok g).1)) (by decide +kernel) (Nat.le_of_ble_eq_true rfl) rfl ?_
  intro pG eN sT mI below meth cO A ls C hRT hnm hA hP hD hS hE0 hl
  have hX := C.x
  have hB := C.b
  refine lv_aload_n hX hB dX9_multiplier_0 rfl (lv_at hl 0 rfl) ?_
  refine lv_aload_n hX hB dX9_multiplier_1 rfl (lv_at hl 0 rfl) ?_
  refine fg_X9_7 C hP 0 rfl rfl dX9_multiplier_2 ?_
  refine lv_iconst (v := 5) hX hB dX9_multiplier_5 (by decide) ?_
  refine z_iald C hP 1 rfl (k := 5) (zlit 5) (by decide) (by decide) (v := g 5) rfl dX9_multiplier_6 ?_
  refine z_callVi (isC := [0, 1]) (isR := []) (isO := [0, 1]) (n_X9_running_ok (g 5)) (q_X9_running_ok cy h0 h1 h2 h3 h4 h5 h6 h7 h8 h9 v2 v3 v4 v5 v6 v7 v8 v9 v10 v11 g) (fun o_1 => [(h0, .inr (11, [.ref h1, .ref h2, .ref h3, .ref h4, .ref h5, .int o_1.2, .int v2, .int v3, .int v4, .int v5, .ref h6, .int v6, .ref h7, .ref h8, .ref h9, .int v7, .int v8, .int v9, .int v10, .int v11])), (h1, .inl (cy 0, 64, .inl (g)))]) (fun o_1 => o_1.1) (c_X9_running_ok l hE D cy h0 h1 h2 h3 h4 h5 h6 h7 h8 h9 v1 v2 v3 v4 v5 v6 v7 v8 v9 v10 v11 g (g 5) hr) hE C zs_X9_168 ⟨Nat.le_of_ble_eq_true rfl, Nat.le_of_ble_eq_true rfl⟩ hP hD hS hA hE0 ⟨rfl, rfl, rfl, by decide, rfl, rfl, rfl⟩ 0 rfl rfl rfl rfl hl.1 (Nat.le_of_ble_eq_true rfl) rfl dX9_multiplier_7 ⟨Nat.le_of_ble_eq_true rfl, Nat.le_of_ble_eq_true rfl⟩ (fun o_1 H locs eo_1 hP hD hS => ?_)
  exact z_iret' (o_1.1, o_1.2) (w' := q_X9_multiplier_ok cy h0 h1 h2 h3 h4 h5 h6 h7 h8 h9 v2 v3 v4 v5 v6 v7 v8 v9 v10 v11 g) (r0 := (fun (o : Int32 × Int32) => o.1)) (by simp only [n_X9_multiplier_ok, ← eo_1]) C hRT hP hD hS (Nat.le_of_ble_eq_true rfl) (Nat.le_of_ble_eq_true rfl) rfl rfl dX9_multiplier_10

def n_X9_multiplier_1  : Int32 :=
  let o_1 := n_X9_running_1
  o_1
def q_X9_multiplier_1 (cy : Nat → ClassId) (h0 : Nat) (h1 : Nat) (h2 : Nat) (h3 : Nat) (h4 : Nat) (h5 : Nat) (h6 : Nat) (h7 : Nat) (h8 : Nat) (h9 : Nat) (v2 : Int32) (v3 : Int32) (v4 : Int32) (v5 : Int32) (v6 : Int32) (v7 : Int32) (v8 : Int32) (v9 : Int32) (v10 : Int32) (v11 : Int32) (g : Nat → Int32) (o : Int32) : va_W := [(h0, .inr (11, [.ref h1, .ref h2, .ref h3, .ref h4, .ref h5, .int o, .int v2, .int v3, .int v4, .int v5, .ref h6, .int v6, .ref h7, .ref h8, .ref h9, .int v7, .int v8, .int v9, .int v10, .int v11])), (h1, .inl (cy 0, 64, .inl (g)))]
set_option maxHeartbeats 4000000 in
set_option maxRecDepth 100000 in
theorem c_X9_multiplier_1 (l : Launch) {E : zEn} (hE : zEok E) (D : zG) (cy : Nat → ClassId) (h0 h1 h2 h3 h4 h5 h6 h7 h8 h9 : Nat) (v1 : Int32) (v2 : Int32) (v3 : Int32) (v4 : Int32) (v5 : Int32) (v6 : Int32) (v7 : Int32) (v8 : Int32) (v9 : Int32) (v10 : Int32) (v11 : Int32) (g : Nat → Int32) (hr : ¬ g 0 = 1) (sz : Nat) : Met l yX9_multiplier (zws yX9_multiplier cX9_multiplier 1 (some .int)) { frames := 2, cells := 0, slots := 0, locals := 41 } (zPre E D cy [.ref h0] [(h0, .inr (11, [.ref h1, .ref h2, .ref h3, .ref h4, .ref h5, .int v1, .int v2, .int v3, .int v4, .int v5, .ref h6, .int v6, .ref h7, .ref h8, .ref h9, .int v7, .int v8, .int v9, .int v10, .int v11])), (h1, .inl (cy 0, 64, .inl (g)))] sz) (zQi D ((q_X9_multiplier_1 cy h0 h1 h2 h3 h4 h5 h6 h7 h8 h9 v2 v3 v4 v5 v6 v7 v8 v9 v10 v11 g) n_X9_multiplier_1) (va_A [(h0, .inr (11, [.ref h1, .ref h2, .ref h3, .ref h4, .ref h5, .int v1, .int v2, .int v3, .int v4, .int v5, .ref h6, .int v6, .ref h7, .ref h8, .ref h9, .int v7, .int v8, .int v9, .int v10, .int v11])), (h1, .inl (cy 0, 64, .inl (g)))] sz) (0)) 0 0 (va_A [(h0, .inr (11, [.ref h1, .ref h2, .ref h3, .ref h4, .ref h5, .int v1, .int v2, .int v3, .int v4, .int v5, .ref h6, .int v6, .ref h7, .ref h8, .ref h9, .int v7, .int v8, .int v9, .int v10, .int v11])), (h1, .inl (cy 0, 64, .inl (g)))] sz) := by
  refine z_of (Qc := fun A => zQi D ((q_X9_multiplier_1 cy h0 h1 h2 h3 h4 h5 h6 h7 h8 h9 v2 v3 v4 v5 v6 v7 v8 v9 v10 v11 g) n_X9_multiplier_1) A (0)) (by decide +kernel) (Nat.le_of_ble_eq_true rfl) rfl ?_
  intro pG eN sT mI below meth cO A ls C hRT hnm hA hP hD hS hE0 hl
  have hX := C.x
  have hB := C.b
  refine lv_aload_n hX hB dX9_multiplier_0 rfl (lv_at hl 0 rfl) ?_
  refine lv_aload_n hX hB dX9_multiplier_1 rfl (lv_at hl 0 rfl) ?_
  refine fg_X9_7 C hP 0 rfl rfl dX9_multiplier_2 ?_
  refine lv_iconst (v := 5) hX hB dX9_multiplier_5 (by decide) ?_
  refine z_iald C hP 1 rfl (k := 5) (zlit 5) (by decide) (by decide) (v := g 5) rfl dX9_multiplier_6 ?_
  refine z_callVi (isC := [0, 1]) (isR := []) (isO := [0, 1]) (n_X9_running_1) (q_X9_running_1 cy h0 h1 h2 h3 h4 h5 h6 h7 h8 h9 v2 v3 v4 v5 v6 v7 v8 v9 v10 v11 g) (fun o_1 => [(h0, .inr (11, [.ref h1, .ref h2, .ref h3, .ref h4, .ref h5, .int o_1, .int v2, .int v3, .int v4, .int v5, .ref h6, .int v6, .ref h7, .ref h8, .ref h9, .int v7, .int v8, .int v9, .int v10, .int v11])), (h1, .inl (cy 0, 64, .inl (g)))]) (fun o_1 => 0) (c_X9_running_1 l hE D cy h0 h1 h2 h3 h4 h5 h6 h7 h8 h9 v1 v2 v3 v4 v5 v6 v7 v8 v9 v10 v11 g (g 5) hr) hE C zs_X9_168 ⟨Nat.le_of_ble_eq_true rfl, Nat.le_of_ble_eq_true rfl⟩ hP hD hS hA hE0 ⟨rfl, rfl, rfl, by decide, rfl, rfl, rfl⟩ 0 rfl rfl rfl rfl hl.1 (Nat.le_of_ble_eq_true rfl) rfl dX9_multiplier_7 ⟨Nat.le_of_ble_eq_true rfl, Nat.le_of_ble_eq_true rfl⟩ (fun o_1 H locs eo_1 hP hD hS => ?_)
  exact z_iret' o_1 (w' := q_X9_multiplier_1 cy h0 h1 h2 h3 h4 h5 h6 h7 h8 h9 v2 v3 v4 v5 v6 v7 v8 v9 v10 v11 g) (r0 := (fun (o : Int32) => 0)) (by simp only [n_X9_multiplier_1, ← eo_1]) C hRT hP hD hS (Nat.le_of_ble_eq_true rfl) (Nat.le_of_ble_eq_true rfl) rfl rfl dX9_multiplier_10

def n_X9_completedBanks_ok (g : Nat → Int32) : Int32 × Int32 :=
  let o_1 := n_X9_running_ok (g 6)
  (o_1.1, o_1.2)
def q_X9_completedBanks_ok (cy : Nat → ClassId) (h0 : Nat) (h1 : Nat) (h2 : Nat) (h3 : Nat) (h4 : Nat) (h5 : Nat) (h6 : Nat) (h7 : Nat) (h8 : Nat) (h9 : Nat) (v2 : Int32) (v3 : Int32) (v4 : Int32) (v5 : Int32) (v6 : Int32) (v7 : Int32) (v8 : Int32) (v9 : Int32) (v10 : Int32) (v11 : Int32) (g : Nat → Int32) (o : Int32 × Int32) : va_W := [(h0, .inr (11, [.ref h1, .ref h2, .ref h3, .ref h4, .ref h5, .int o.2, .int v2, .int v3, .int v4, .int v5, .ref h6, .int v6, .ref h7, .ref h8, .ref h9, .int v7, .int v8, .int v9, .int v10, .int v11])), (h1, .inl (cy 0, 64, .inl (g)))]
set_option maxHeartbeats 4000000 in
set_option maxRecDepth 100000 in
theorem c_X9_completedBanks_ok (l : Launch) {E : zEn} (hE : zEok E) (D : zG) (cy : Nat → ClassId) (h0 h1 h2 h3 h4 h5 h6 h7 h8 h9 : Nat) (v1 : Int32) (v2 : Int32) (v3 : Int32) (v4 : Int32) (v5 : Int32) (v6 : Int32) (v7 : Int32) (v8 : Int32) (v9 : Int32) (v10 : Int32) (v11 : Int32) (g : Nat → Int32) (hr : g 0 = 1) (sz : Nat) : Met l yX9_completedBanks (zws yX9_completedBanks cX9_completedBanks 1 (some .int)) { frames := 2, cells := 0, slots := 0, locals := 41 } (zPre E D cy [.ref h0] [(h0, .inr (11, [.ref h1, .ref h2, .ref h3, .ref h4, .ref h5, .int v1, .int v2, .int v3, .int v4, .int v5, .ref h6, .int v6, .ref h7, .ref h8, .ref h9, .int v7, .int v8, .int v9, .int v10, .int v11])), (h1, .inl (cy 0, 64, .inl (g)))] sz) (zQi D ((q_X9_completedBanks_ok cy h0 h1 h2 h3 h4 h5 h6 h7 h8 h9 v2 v3 v4 v5 v6 v7 v8 v9 v10 v11 g) (n_X9_completedBanks_ok g)) (va_A [(h0, .inr (11, [.ref h1, .ref h2, .ref h3, .ref h4, .ref h5, .int v1, .int v2, .int v3, .int v4, .int v5, .ref h6, .int v6, .ref h7, .ref h8, .ref h9, .int v7, .int v8, .int v9, .int v10, .int v11])), (h1, .inl (cy 0, 64, .inl (g)))] sz) ((n_X9_completedBanks_ok g).1)) 0 0 (va_A [(h0, .inr (11, [.ref h1, .ref h2, .ref h3, .ref h4, .ref h5, .int v1, .int v2, .int v3, .int v4, .int v5, .ref h6, .int v6, .ref h7, .ref h8, .ref h9, .int v7, .int v8, .int v9, .int v10, .int v11])), (h1, .inl (cy 0, 64, .inl (g)))] sz) := by
  refine z_of (Qc := fun A => zQi D ((q_X9_completedBanks_ok cy h0 h1 h2 h3 h4 h5 h6 h7 h8 h9 v2 v3 v4 v5 v6 v7 v8 v9 v10 v11 g) (n_X9_completedBanks_ok g)) A ((n_X9_completedBanks_ok g).1)) (by decide +kernel) (Nat.le_of_ble_eq_true rfl) rfl ?_
  intro pG eN sT mI below meth cO A ls C hRT hnm hA hP hD hS hE0 hl
  have hX := C.x
  have hB := C.b
  refine lv_aload_n hX hB dX9_completedBanks_0 rfl (lv_at hl 0 rfl) ?_
  refine lv_aload_n hX hB dX9_completedBanks_1 rfl (lv_at hl 0 rfl) ?_
  refine fg_X9_7 C hP 0 rfl rfl dX9_completedBanks_2 ?_
  refine lv_bipush (v := 6) hX hB dX9_completedBanks_5 (by decide) ?_
  refine z_iald C hP 1 rfl (k := 6) (zlit 6) (by decide) (by decide) (v := g 6) rfl dX9_completedBanks_7 ?_
  refine z_callVi (isC := [0, 1]) (isR := []) (isO := [0, 1]) (n_X9_running_ok (g 6)) (q_X9_running_ok cy h0 h1 h2 h3 h4 h5 h6 h7 h8 h9 v2 v3 v4 v5 v6 v7 v8 v9 v10 v11 g) (fun o_1 => [(h0, .inr (11, [.ref h1, .ref h2, .ref h3, .ref h4, .ref h5, .int o_1.2, .int v2, .int v3, .int v4, .int v5, .ref h6, .int v6, .ref h7, .ref h8, .ref h9, .int v7, .int v8, .int v9, .int v10, .int v11])), (h1, .inl (cy 0, 64, .inl (g)))]) (fun o_1 => o_1.1) (c_X9_running_ok l hE D cy h0 h1 h2 h3 h4 h5 h6 h7 h8 h9 v1 v2 v3 v4 v5 v6 v7 v8 v9 v10 v11 g (g 6) hr) hE C zs_X9_168 ⟨Nat.le_of_ble_eq_true rfl, Nat.le_of_ble_eq_true rfl⟩ hP hD hS hA hE0 ⟨rfl, rfl, rfl, by decide, rfl, rfl, rfl⟩ 0 rfl rfl rfl rfl hl.1 (Nat.le_of_ble_eq_true rfl) rfl dX9_completedBanks_8 ⟨Nat.le_of_ble_eq_true rfl, Nat.le_of_ble_eq_true rfl⟩ (fun o_1 H locs eo_1 hP hD hS => ?_)
  exact z_iret' (o_1.1, o_1.2) (w' := q_X9_completedBanks_ok cy h0 h1 h2 h3 h4 h5 h6 h7 h8 h9 v2 v3 v4 v5 v6 v7 v8 v9 v10 v11 g) (r0 := (fun (o : Int32 × Int32) => o.1)) (by simp only [n_X9_completedBanks_ok, ← eo_1]) C hRT hP hD hS (Nat.le_of_ble_eq_true rfl) (Nat.le_of_ble_eq_true rfl) rfl rfl dX9_completedBanks_11

def n_X9_completedBanks_1  : Int32 :=
  let o_1 := n_X9_running_1
  o_1
def q_X9_completedBanks_1 (cy : Nat → ClassId) (h0 : Nat) (h1 : Nat) (h2 : Nat) (h3 : Nat) (h4 : Nat) (h5 : Nat) (h6 : Nat) (h7 : Nat) (h8 : Nat) (h9 : Nat) (v2 : Int32) (v3 : Int32) (v4 : Int32) (v5 : Int32) (v6 : Int32) (v7 : Int32) (v8 : Int32) (v9 : Int32) (v10 : Int32) (v11 : Int32) (g : Nat → Int32) (o : Int32) : va_W := [(h0, .inr (11, [.ref h1, .ref h2, .ref h3, .ref h4, .ref h5, .int o, .int v2, .int v3, .int v4, .int v5, .ref h6, .int v6, .ref h7, .ref h8, .ref h9, .int v7, .int v8, .int v9, .int v10, .int v11])), (h1, .inl (cy 0, 64, .inl (g)))]
set_option maxHeartbeats 4000000 in
set_option maxRecDepth 100000 in
theorem c_X9_completedBanks_1 (l : Launch) {E : zEn} (hE : zEok E) (D : zG) (cy : Nat → ClassId) (h0 h1 h2 h3 h4 h5 h6 h7 h8 h9 : Nat) (v1 : Int32) (v2 : Int32) (v3 : Int32) (v4 : Int32) (v5 : Int32) (v6 : Int32) (v7 : Int32) (v8 : Int32) (v9 : Int32) (v10 : Int32) (v11 : Int32) (g : Nat → Int32) (hr : ¬ g 0 = 1) (sz : Nat) : Met l yX9_completedBanks (zws yX9_completedBanks cX9_completedBanks 1 (some .int)) { frames := 2, cells := 0, slots := 0, locals := 41 } (zPre E D cy [.ref h0] [(h0, .inr (11, [.ref h1, .ref h2, .ref h3, .ref h4, .ref h5, .int v1, .int v2, .int v3, .int v4, .int v5, .ref h6, .int v6, .ref h7, .ref h8, .ref h9, .int v7, .int v8, .int v9, .int v10, .int v11])), (h1, .inl (cy 0, 64, .inl (g)))] sz) (zQi D ((q_X9_completedBanks_1 cy h0 h1 h2 h3 h4 h5 h6 h7 h8 h9 v2 v3 v4 v5 v6 v7 v8 v9 v10 v11 g) n_X9_completedBanks_1) (va_A [(h0, .inr (11, [.ref h1, .ref h2, .ref h3, .ref h4, .ref h5, .int v1, .int v2, .int v3, .int v4, .int v5, .ref h6, .int v6, .ref h7, .ref h8, .ref h9, .int v7, .int v8, .int v9, .int v10, .int v11])), (h1, .inl (cy 0, 64, .inl (g)))] sz) (0)) 0 0 (va_A [(h0, .inr (11, [.ref h1, .ref h2, .ref h3, .ref h4, .ref h5, .int v1, .int v2, .int v3, .int v4, .int v5, .ref h6, .int v6, .ref h7, .ref h8, .ref h9, .int v7, .int v8, .int v9, .int v10, .int v11])), (h1, .inl (cy 0, 64, .inl (g)))] sz) := by
  refine z_of (Qc := fun A => zQi D ((q_X9_completedBanks_1 cy h0 h1 h2 h3 h4 h5 h6 h7 h8 h9 v2 v3 v4 v5 v6 v7 v8 v9 v10 v11 g) n_X9_completedBanks_1) A (0)) (by decide +kernel) (Nat.le_of_ble_eq_true rfl) rfl ?_
  intro pG eN sT mI below meth cO A ls C hRT hnm hA hP hD hS hE0 hl
  have hX := C.x
  have hB := C.b
  refine lv_aload_n hX hB dX9_completedBanks_0 rfl (lv_at hl 0 rfl) ?_
  refine lv_aload_n hX hB dX9_completedBanks_1 rfl (lv_at hl 0 rfl) ?_
  refine fg_X9_7 C hP 0 rfl rfl dX9_completedBanks_2 ?_
  refine lv_bipush (v := 6) hX hB dX9_completedBanks_5 (by decide) ?_
  refine z_iald C hP 1 rfl (k := 6) (zlit 6) (by decide) (by decide) (v := g 6) rfl dX9_completedBanks_7 ?_
  refine z_callVi (isC := [0, 1]) (isR := []) (isO := [0, 1]) (n_X9_running_1) (q_X9_running_1 cy h0 h1 h2 h3 h4 h5 h6 h7 h8 h9 v2 v3 v4 v5 v6 v7 v8 v9 v10 v11 g) (fun o_1 => [(h0, .inr (11, [.ref h1, .ref h2, .ref h3, .ref h4, .ref h5, .int o_1, .int v2, .int v3, .int v4, .int v5, .ref h6, .int v6, .ref h7, .ref h8, .ref h9, .int v7, .int v8, .int v9, .int v10, .int v11])), (h1, .inl (cy 0, 64, .inl (g)))]) (fun o_1 => 0) (c_X9_running_1 l hE D cy h0 h1 h2 h3 h4 h5 h6 h7 h8 h9 v1 v2 v3 v4 v5 v6 v7 v8 v9 v10 v11 g (g 6) hr) hE C zs_X9_168 ⟨Nat.le_of_ble_eq_true rfl, Nat.le_of_ble_eq_true rfl⟩ hP hD hS hA hE0 ⟨rfl, rfl, rfl, by decide, rfl, rfl, rfl⟩ 0 rfl rfl rfl rfl hl.1 (Nat.le_of_ble_eq_true rfl) rfl dX9_completedBanks_8 ⟨Nat.le_of_ble_eq_true rfl, Nat.le_of_ble_eq_true rfl⟩ (fun o_1 H locs eo_1 hP hD hS => ?_)
  exact z_iret' o_1 (w' := q_X9_completedBanks_1 cy h0 h1 h2 h3 h4 h5 h6 h7 h8 h9 v2 v3 v4 v5 v6 v7 v8 v9 v10 v11 g) (r0 := (fun (o : Int32) => 0)) (by simp only [n_X9_completedBanks_1, ← eo_1]) C hRT hP hD hS (Nat.le_of_ble_eq_true rfl) (Nat.le_of_ble_eq_true rfl) rfl rfl dX9_completedBanks_11

def n_X9_bonusUnits_ok (g : Nat → Int32) : Int32 × Int32 :=
  let o_1 := n_X9_running_ok (g 7)
  (o_1.1, o_1.2)
def q_X9_bonusUnits_ok (cy : Nat → ClassId) (h0 : Nat) (h1 : Nat) (h2 : Nat) (h3 : Nat) (h4 : Nat) (h5 : Nat) (h6 : Nat) (h7 : Nat) (h8 : Nat) (h9 : Nat) (v2 : Int32) (v3 : Int32) (v4 : Int32) (v5 : Int32) (v6 : Int32) (v7 : Int32) (v8 : Int32) (v9 : Int32) (v10 : Int32) (v11 : Int32) (g : Nat → Int32) (o : Int32 × Int32) : va_W := [(h0, .inr (11, [.ref h1, .ref h2, .ref h3, .ref h4, .ref h5, .int o.2, .int v2, .int v3, .int v4, .int v5, .ref h6, .int v6, .ref h7, .ref h8, .ref h9, .int v7, .int v8, .int v9, .int v10, .int v11])), (h1, .inl (cy 0, 64, .inl (g)))]
set_option maxHeartbeats 4000000 in
set_option maxRecDepth 100000 in
theorem c_X9_bonusUnits_ok (l : Launch) {E : zEn} (hE : zEok E) (D : zG) (cy : Nat → ClassId) (h0 h1 h2 h3 h4 h5 h6 h7 h8 h9 : Nat) (v1 : Int32) (v2 : Int32) (v3 : Int32) (v4 : Int32) (v5 : Int32) (v6 : Int32) (v7 : Int32) (v8 : Int32) (v9 : Int32) (v10 : Int32) (v11 : Int32) (g : Nat → Int32) (hr : g 0 = 1) (sz : Nat) : Met l yX9_bonusUnits (zws yX9_bonusUnits cX9_bonusUnits 1 (some .int)) { frames := 2, cells := 0, slots := 0, locals := 41 } (zPre E D cy [.ref h0] [(h0, .inr (11, [.ref h1, .ref h2, .ref h3, .ref h4, .ref h5, .int v1, .int v2, .int v3, .int v4, .int v5, .ref h6, .int v6, .ref h7, .ref h8, .ref h9, .int v7, .int v8, .int v9, .int v10, .int v11])), (h1, .inl (cy 0, 64, .inl (g)))] sz) (zQi D ((q_X9_bonusUnits_ok cy h0 h1 h2 h3 h4 h5 h6 h7 h8 h9 v2 v3 v4 v5 v6 v7 v8 v9 v10 v11 g) (n_X9_bonusUnits_ok g)) (va_A [(h0, .inr (11, [.ref h1, .ref h2, .ref h3, .ref h4, .ref h5, .int v1, .int v2, .int v3, .int v4, .int v5, .ref h6, .int v6, .ref h7, .ref h8, .ref h9, .int v7, .int v8, .int v9, .int v10, .int v11])), (h1, .inl (cy 0, 64, .inl (g)))] sz) ((n_X9_bonusUnits_ok g).1)) 0 0 (va_A [(h0, .inr (11, [.ref h1, .ref h2, .ref h3, .ref h4, .ref h5, .int v1, .int v2, .int v3, .int v4, .int v5, .ref h6, .int v6, .ref h7, .ref h8, .ref h9, .int v7, .int v8, .int v9, .int v10, .int v11])), (h1, .inl (cy 0, 64, .inl (g)))] sz) := by
  refine z_of (Qc := fun A => zQi D ((q_X9_bonusUnits_ok cy h0 h1 h2 h3 h4 h5 h6 h7 h8 h9 v2 v3 v4 v5 v6 v7 v8 v9 v10 v11 g) (n_X9_bonusUnits_ok g)) A ((n_X9_bonusUnits_ok g).1)) (by decide +kernel) (Nat.le_of_ble_eq_true rfl) rfl ?_
  intro pG eN sT mI below meth cO A ls C hRT hnm hA hP hD hS hE0 hl
  have hX := C.x
  have hB := C.b
  refine lv_aload_n hX hB dX9_bonusUnits_0 rfl (lv_at hl 0 rfl) ?_
  refine lv_aload_n hX hB dX9_bonusUnits_1 rfl (lv_at hl 0 rfl) ?_
  refine fg_X9_7 C hP 0 rfl rfl dX9_bonusUnits_2 ?_
  refine lv_bipush (v := 7) hX hB dX9_bonusUnits_5 (by decide) ?_
  refine z_iald C hP 1 rfl (k := 7) (zlit 7) (by decide) (by decide) (v := g 7) rfl dX9_bonusUnits_7 ?_
  refine z_callVi (isC := [0, 1]) (isR := []) (isO := [0, 1]) (n_X9_running_ok (g 7)) (q_X9_running_ok cy h0 h1 h2 h3 h4 h5 h6 h7 h8 h9 v2 v3 v4 v5 v6 v7 v8 v9 v10 v11 g) (fun o_1 => [(h0, .inr (11, [.ref h1, .ref h2, .ref h3, .ref h4, .ref h5, .int o_1.2, .int v2, .int v3, .int v4, .int v5, .ref h6, .int v6, .ref h7, .ref h8, .ref h9, .int v7, .int v8, .int v9, .int v10, .int v11])), (h1, .inl (cy 0, 64, .inl (g)))]) (fun o_1 => o_1.1) (c_X9_running_ok l hE D cy h0 h1 h2 h3 h4 h5 h6 h7 h8 h9 v1 v2 v3 v4 v5 v6 v7 v8 v9 v10 v11 g (g 7) hr) hE C zs_X9_168 ⟨Nat.le_of_ble_eq_true rfl, Nat.le_of_ble_eq_true rfl⟩ hP hD hS hA hE0 ⟨rfl, rfl, rfl, by decide, rfl, rfl, rfl⟩ 0 rfl rfl rfl rfl hl.1 (Nat.le_of_ble_eq_true rfl) rfl dX9_bonusUnits_8 ⟨Nat.le_of_ble_eq_true rfl, Nat.le_of_ble_eq_true rfl⟩ (fun o_1 H locs eo_1 hP hD hS => ?_)
  exact z_iret' (o_1.1, o_1.2) (w' := q_X9_bonusUnits_ok cy h0 h1 h2 h3 h4 h5 h6 h7 h8 h9 v2 v3 v4 v5 v6 v7 v8 v9 v10 v11 g) (r0 := (fun (o : Int32 × Int32) => o.1)) (by simp only [n_X9_bonusUnits_ok, ← eo_1]) C hRT hP hD hS (Nat.le_of_ble_eq_true rfl) (Nat.le_of_ble_eq_true rfl) rfl rfl dX9_bonusUnits_11

def n_X9_bonusUnits_1  : Int32 :=
  let o_1 := n_X9_running_1
  o_1
def q_X9_bonusUnits_1 (cy : Nat → ClassId) (h0 : Nat) (h1 : Nat) (h2 : Nat) (h3 : Nat) (h4 : Nat) (h5 : Nat) (h6 : Nat) (h7 : Nat) (h8 : Nat) (h9 : Nat) (v2 : Int32) (v3 : Int32) (v4 : Int32) (v5 : Int32) (v6 : Int32) (v7 : Int32) (v8 : Int32) (v9 : Int32) (v10 : Int32) (v11 : Int32) (g : Nat → Int32) (o : Int32) : va_W := [(h0, .inr (11, [.ref h1, .ref h2, .ref h3, .ref h4, .ref h5, .int o, .int v2, .int v3, .int v4, .int v5, .ref h6, .int v6, .ref h7, .ref h8, .ref h9, .int v7, .int v8, .int v9, .int v10, .int v11])), (h1, .inl (cy 0, 64, .inl (g)))]
set_option maxHeartbeats 4000000 in
set_option maxRecDepth 100000 in
theorem c_X9_bonusUnits_1 (l : Launch) {E : zEn} (hE : zEok E) (D : zG) (cy : Nat → ClassId) (h0 h1 h2 h3 h4 h5 h6 h7 h8 h9 : Nat) (v1 : Int32) (v2 : Int32) (v3 : Int32) (v4 : Int32) (v5 : Int32) (v6 : Int32) (v7 : Int32) (v8 : Int32) (v9 : Int32) (v10 : Int32) (v11 : Int32) (g : Nat → Int32) (hr : ¬ g 0 = 1) (sz : Nat) : Met l yX9_bonusUnits (zws yX9_bonusUnits cX9_bonusUnits 1 (some .int)) { frames := 2, cells := 0, slots := 0, locals := 41 } (zPre E D cy [.ref h0] [(h0, .inr (11, [.ref h1, .ref h2, .ref h3, .ref h4, .ref h5, .int v1, .int v2, .int v3, .int v4, .int v5, .ref h6, .int v6, .ref h7, .ref h8, .ref h9, .int v7, .int v8, .int v9, .int v10, .int v11])), (h1, .inl (cy 0, 64, .inl (g)))] sz) (zQi D ((q_X9_bonusUnits_1 cy h0 h1 h2 h3 h4 h5 h6 h7 h8 h9 v2 v3 v4 v5 v6 v7 v8 v9 v10 v11 g) n_X9_bonusUnits_1) (va_A [(h0, .inr (11, [.ref h1, .ref h2, .ref h3, .ref h4, .ref h5, .int v1, .int v2, .int v3, .int v4, .int v5, .ref h6, .int v6, .ref h7, .ref h8, .ref h9, .int v7, .int v8, .int v9, .int v10, .int v11])), (h1, .inl (cy 0, 64, .inl (g)))] sz) (0)) 0 0 (va_A [(h0, .inr (11, [.ref h1, .ref h2, .ref h3, .ref h4, .ref h5, .int v1, .int v2, .int v3, .int v4, .int v5, .ref h6, .int v6, .ref h7, .ref h8, .ref h9, .int v7, .int v8, .int v9, .int v10, .int v11])), (h1, .inl (cy 0, 64, .inl (g)))] sz) := by
  refine z_of (Qc := fun A => zQi D ((q_X9_bonusUnits_1 cy h0 h1 h2 h3 h4 h5 h6 h7 h8 h9 v2 v3 v4 v5 v6 v7 v8 v9 v10 v11 g) n_X9_bonusUnits_1) A (0)) (by decide +kernel) (Nat.le_of_ble_eq_true rfl) rfl ?_
  intro pG eN sT mI below meth cO A ls C hRT hnm hA hP hD hS hE0 hl
  have hX := C.x
  have hB := C.b
  refine lv_aload_n hX hB dX9_bonusUnits_0 rfl (lv_at hl 0 rfl) ?_
  refine lv_aload_n hX hB dX9_bonusUnits_1 rfl (lv_at hl 0 rfl) ?_
  refine fg_X9_7 C hP 0 rfl rfl dX9_bonusUnits_2 ?_
  refine lv_bipush (v := 7) hX hB dX9_bonusUnits_5 (by decide) ?_
  refine z_iald C hP 1 rfl (k := 7) (zlit 7) (by decide) (by decide) (v := g 7) rfl dX9_bonusUnits_7 ?_
  refine z_callVi (isC := [0, 1]) (isR := []) (isO := [0, 1]) (n_X9_running_1) (q_X9_running_1 cy h0 h1 h2 h3 h4 h5 h6 h7 h8 h9 v2 v3 v4 v5 v6 v7 v8 v9 v10 v11 g) (fun o_1 => [(h0, .inr (11, [.ref h1, .ref h2, .ref h3, .ref h4, .ref h5, .int o_1, .int v2, .int v3, .int v4, .int v5, .ref h6, .int v6, .ref h7, .ref h8, .ref h9, .int v7, .int v8, .int v9, .int v10, .int v11])), (h1, .inl (cy 0, 64, .inl (g)))]) (fun o_1 => 0) (c_X9_running_1 l hE D cy h0 h1 h2 h3 h4 h5 h6 h7 h8 h9 v1 v2 v3 v4 v5 v6 v7 v8 v9 v10 v11 g (g 7) hr) hE C zs_X9_168 ⟨Nat.le_of_ble_eq_true rfl, Nat.le_of_ble_eq_true rfl⟩ hP hD hS hA hE0 ⟨rfl, rfl, rfl, by decide, rfl, rfl, rfl⟩ 0 rfl rfl rfl rfl hl.1 (Nat.le_of_ble_eq_true rfl) rfl dX9_bonusUnits_8 ⟨Nat.le_of_ble_eq_true rfl, Nat.le_of_ble_eq_true rfl⟩ (fun o_1 H locs eo_1 hP hD hS => ?_)
  exact z_iret' o_1 (w' := q_X9_bonusUnits_1 cy h0 h1 h2 h3 h4 h5 h6 h7 h8 h9 v2 v3 v4 v5 v6 v7 v8 v9 v10 v11 g) (r0 := (fun (o : Int32) => 0)) (by simp only [n_X9_bonusUnits_1, ← eo_1]) C hRT hP hD hS (Nat.le_of_ble_eq_true rfl) (Nat.le_of_ble_eq_true rfl) rfl rfl dX9_bonusUnits_11

def n_X9_tiltMeter_ok (g : Nat → Int32) : Int32 × Int32 :=
  let o_1 := n_X9_running_ok (g 8)
  (o_1.1, o_1.2)
def q_X9_tiltMeter_ok (cy : Nat → ClassId) (h0 : Nat) (h1 : Nat) (h2 : Nat) (h3 : Nat) (h4 : Nat) (h5 : Nat) (h6 : Nat) (h7 : Nat) (h8 : Nat) (h9 : Nat) (v2 : Int32) (v3 : Int32) (v4 : Int32) (v5 : Int32) (v6 : Int32) (v7 : Int32) (v8 : Int32) (v9 : Int32) (v10 : Int32) (v11 : Int32) (g : Nat → Int32) (o : Int32 × Int32) : va_W := [(h0, .inr (11, [.ref h1, .ref h2, .ref h3, .ref h4, .ref h5, .int o.2, .int v2, .int v3, .int v4, .int v5, .ref h6, .int v6, .ref h7, .ref h8, .ref h9, .int v7, .int v8, .int v9, .int v10, .int v11])), (h1, .inl (cy 0, 64, .inl (g)))]
set_option maxHeartbeats 4000000 in
set_option maxRecDepth 100000 in
theorem c_X9_tiltMeter_ok (l : Launch) {E : zEn} (hE : zEok E) (D : zG) (cy : Nat → ClassId) (h0 h1 h2 h3 h4 h5 h6 h7 h8 h9 : Nat) (v1 : Int32) (v2 : Int32) (v3 : Int32) (v4 : Int32) (v5 : Int32) (v6 : Int32) (v7 : Int32) (v8 : Int32) (v9 : Int32) (v10 : Int32) (v11 : Int32) (g : Nat → Int32) (hr : g 0 = 1) (sz : Nat) : Met l yX9_tiltMeter (zws yX9_tiltMeter cX9_tiltMeter 1 (some .int)) { frames := 2, cells := 0, slots := 0, locals := 41 } (zPre E D cy [.ref h0] [(h0, .inr (11, [.ref h1, .ref h2, .ref h3, .ref h4, .ref h5, .int v1, .int v2, .int v3, .int v4, .int v5, .ref h6, .int v6, .ref h7, .ref h8, .ref h9, .int v7, .int v8, .int v9, .int v10, .int v11])), (h1, .inl (cy 0, 64, .inl (g)))] sz) (zQi D ((q_X9_tiltMeter_ok cy h0 h1 h2 h3 h4 h5 h6 h7 h8 h9 v2 v3 v4 v5 v6 v7 v8 v9 v10 v11 g) (n_X9_tiltMeter_ok g)) (va_A [(h0, .inr (11, [.ref h1, .ref h2, .ref h3, .ref h4, .ref h5, .int v1, .int v2, .int v3, .int v4, .int v5, .ref h6, .int v6, .ref h7, .ref h8, .ref h9, .int v7, .int v8, .int v9, .int v10, .int v11])), (h1, .inl (cy 0, 64, .inl (g)))] sz) ((n_X9_tiltMeter_ok g).1)) 0 0 (va_A [(h0, .inr (11, [.ref h1, .ref h2, .ref h3, .ref h4, .ref h5, .int v1, .int v2, .int v3, .int v4, .int v5, .ref h6, .int v6, .ref h7, .ref h8, .ref h9, .int v7, .int v8, .int v9, .int v10, .int v11])), (h1, .inl (cy 0, 64, .inl (g)))] sz) := by
  refine z_of (Qc := fun A => zQi D ((q_X9_tiltMeter_ok cy h0 h1 h2 h3 h4 h5 h6 h7 h8 h9 v2 v3 v4 v5 v6 v7 v8 v9 v10 v11 g) (n_X9_tiltMeter_ok g)) A ((n_X9_tiltMeter_ok g).1)) (by decide +kernel) (Nat.le_of_ble_eq_true rfl) rfl ?_
  intro pG eN sT mI below meth cO A ls C hRT hnm hA hP hD hS hE0 hl
  have hX := C.x
  have hB := C.b
  refine lv_aload_n hX hB dX9_tiltMeter_0 rfl (lv_at hl 0 rfl) ?_
  refine lv_aload_n hX hB dX9_tiltMeter_1 rfl (lv_at hl 0 rfl) ?_
  refine fg_X9_7 C hP 0 rfl rfl dX9_tiltMeter_2 ?_
  refine lv_bipush (v := 8) hX hB dX9_tiltMeter_5 (by decide) ?_
  refine z_iald C hP 1 rfl (k := 8) (zlit 8) (by decide) (by decide) (v := g 8) rfl dX9_tiltMeter_7 ?_
  refine z_callVi (isC := [0, 1]) (isR := []) (isO := [0, 1]) (n_X9_running_ok (g 8)) (q_X9_running_ok cy h0 h1 h2 h3 h4 h5 h6 h7 h8 h9 v2 v3 v4 v5 v6 v7 v8 v9 v10 v11 g) (fun o_1 => [(h0, .inr (11, [.ref h1, .ref h2, .ref h3, .ref h4, .ref h5, .int o_1.2, .int v2, .int v3, .int v4, .int v5, .ref h6, .int v6, .ref h7, .ref h8, .ref h9, .int v7, .int v8, .int v9, .int v10, .int v11])), (h1, .inl (cy 0, 64, .inl (g)))]) (fun o_1 => o_1.1) (c_X9_running_ok l hE D cy h0 h1 h2 h3 h4 h5 h6 h7 h8 h9 v1 v2 v3 v4 v5 v6 v7 v8 v9 v10 v11 g (g 8) hr) hE C zs_X9_168 ⟨Nat.le_of_ble_eq_true rfl, Nat.le_of_ble_eq_true rfl⟩ hP hD hS hA hE0 ⟨rfl, rfl, rfl, by decide, rfl, rfl, rfl⟩ 0 rfl rfl rfl rfl hl.1 (Nat.le_of_ble_eq_true rfl) rfl dX9_tiltMeter_8 ⟨Nat.le_of_ble_eq_true rfl, Nat.le_of_ble_eq_true rfl⟩ (fun o_1 H locs eo_1 hP hD hS => ?_)
  exact z_iret' (o_1.1, o_1.2) (w' := q_X9_tiltMeter_ok cy h0 h1 h2 h3 h4 h5 h6 h7 h8 h9 v2 v3 v4 v5 v6 v7 v8 v9 v10 v11 g) (r0 := (fun (o : Int32 × Int32) => o.1)) (by simp only [n_X9_tiltMeter_ok, ← eo_1]) C hRT hP hD hS (Nat.le_of_ble_eq_true rfl) (Nat.le_of_ble_eq_true rfl) rfl rfl dX9_tiltMeter_11

def n_X9_tiltMeter_1  : Int32 :=
  let o_1 := n_X9_running_1
  o_1
def q_X9_tiltMeter_1 (cy : Nat → ClassId) (h0 : Nat) (h1 : Nat) (h2 : Nat) (h3 : Nat) (h4 : Nat) (h5 : Nat) (h6 : Nat) (h7 : Nat) (h8 : Nat) (h9 : Nat) (v2 : Int32) (v3 : Int32) (v4 : Int32) (v5 : Int32) (v6 : Int32) (v7 : Int32) (v8 : Int32) (v9 : Int32) (v10 : Int32) (v11 : Int32) (g : Nat → Int32) (o : Int32) : va_W := [(h0, .inr (11, [.ref h1, .ref h2, .ref h3, .ref h4, .ref h5, .int o, .int v2, .int v3, .int v4, .int v5, .ref h6, .int v6, .ref h7, .ref h8, .ref h9, .int v7, .int v8, .int v9, .int v10, .int v11])), (h1, .inl (cy 0, 64, .inl (g)))]
set_option maxHeartbeats 4000000 in
set_option maxRecDepth 100000 in
theorem c_X9_tiltMeter_1 (l : Launch) {E : zEn} (hE : zEok E) (D : zG) (cy : Nat → ClassId) (h0 h1 h2 h3 h4 h5 h6 h7 h8 h9 : Nat) (v1 : Int32) (v2 : Int32) (v3 : Int32) (v4 : Int32) (v5 : Int32) (v6 : Int32) (v7 : Int32) (v8 : Int32) (v9 : Int32) (v10 : Int32) (v11 : Int32) (g : Nat → Int32) (hr : ¬ g 0 = 1) (sz : Nat) : Met l yX9_tiltMeter (zws yX9_tiltMeter cX9_tiltMeter 1 (some .int)) { frames := 2, cells := 0, slots := 0, locals := 41 } (zPre E D cy [.ref h0] [(h0, .inr (11, [.ref h1, .ref h2, .ref h3, .ref h4, .ref h5, .int v1, .int v2, .int v3, .int v4, .int v5, .ref h6, .int v6, .ref h7, .ref h8, .ref h9, .int v7, .int v8, .int v9, .int v10, .int v11])), (h1, .inl (cy 0, 64, .inl (g)))] sz) (zQi D ((q_X9_tiltMeter_1 cy h0 h1 h2 h3 h4 h5 h6 h7 h8 h9 v2 v3 v4 v5 v6 v7 v8 v9 v10 v11 g) n_X9_tiltMeter_1) (va_A [(h0, .inr (11, [.ref h1, .ref h2, .ref h3, .ref h4, .ref h5, .int v1, .int v2, .int v3, .int v4, .int v5, .ref h6, .int v6, .ref h7, .ref h8, .ref h9, .int v7, .int v8, .int v9, .int v10, .int v11])), (h1, .inl (cy 0, 64, .inl (g)))] sz) (0)) 0 0 (va_A [(h0, .inr (11, [.ref h1, .ref h2, .ref h3, .ref h4, .ref h5, .int v1, .int v2, .int v3, .int v4, .int v5, .ref h6, .int v6, .ref h7, .ref h8, .ref h9, .int v7, .int v8, .int v9, .int v10, .int v11])), (h1, .inl (cy 0, 64, .inl (g)))] sz) := by
  refine z_of (Qc := fun A => zQi D ((q_X9_tiltMeter_1 cy h0 h1 h2 h3 h4 h5 h6 h7 h8 h9 v2 v3 v4 v5 v6 v7 v8 v9 v10 v11 g) n_X9_tiltMeter_1) A (0)) (by decide +kernel) (Nat.le_of_ble_eq_true rfl) rfl ?_
  intro pG eN sT mI below meth cO A ls C hRT hnm hA hP hD hS hE0 hl
  have hX := C.x
  have hB := C.b
  refine lv_aload_n hX hB dX9_tiltMeter_0 rfl (lv_at hl 0 rfl) ?_
  refine lv_aload_n hX hB dX9_tiltMeter_1 rfl (lv_at hl 0 rfl) ?_
  refine fg_X9_7 C hP 0 rfl rfl dX9_tiltMeter_2 ?_
  refine lv_bipush (v := 8) hX hB dX9_tiltMeter_5 (by decide) ?_
  refine z_iald C hP 1 rfl (k := 8) (zlit 8) (by decide) (by decide) (v := g 8) rfl dX9_tiltMeter_7 ?_
  refine z_callVi (isC := [0, 1]) (isR := []) (isO := [0, 1]) (n_X9_running_1) (q_X9_running_1 cy h0 h1 h2 h3 h4 h5 h6 h7 h8 h9 v2 v3 v4 v5 v6 v7 v8 v9 v10 v11 g) (fun o_1 => [(h0, .inr (11, [.ref h1, .ref h2, .ref h3, .ref h4, .ref h5, .int o_1, .int v2, .int v3, .int v4, .int v5, .ref h6, .int v6, .ref h7, .ref h8, .ref h9, .int v7, .int v8, .int v9, .int v10, .int v11])), (h1, .inl (cy 0, 64, .inl (g)))]) (fun o_1 => 0) (c_X9_running_1 l hE D cy h0 h1 h2 h3 h4 h5 h6 h7 h8 h9 v1 v2 v3 v4 v5 v6 v7 v8 v9 v10 v11 g (g 8) hr) hE C zs_X9_168 ⟨Nat.le_of_ble_eq_true rfl, Nat.le_of_ble_eq_true rfl⟩ hP hD hS hA hE0 ⟨rfl, rfl, rfl, by decide, rfl, rfl, rfl⟩ 0 rfl rfl rfl rfl hl.1 (Nat.le_of_ble_eq_true rfl) rfl dX9_tiltMeter_8 ⟨Nat.le_of_ble_eq_true rfl, Nat.le_of_ble_eq_true rfl⟩ (fun o_1 H locs eo_1 hP hD hS => ?_)
  exact z_iret' o_1 (w' := q_X9_tiltMeter_1 cy h0 h1 h2 h3 h4 h5 h6 h7 h8 h9 v2 v3 v4 v5 v6 v7 v8 v9 v10 v11 g) (r0 := (fun (o : Int32) => 0)) (by simp only [n_X9_tiltMeter_1, ← eo_1]) C hRT hP hD hS (Nat.le_of_ble_eq_true rfl) (Nat.le_of_ble_eq_true rfl) rfl rfl dX9_tiltMeter_11

def n_X9_warnings_ok (g : Nat → Int32) : Int32 × Int32 :=
  let o_1 := n_X9_running_ok (g 9)
  (o_1.1, o_1.2)
def q_X9_warnings_ok (cy : Nat → ClassId) (h0 : Nat) (h1 : Nat) (h2 : Nat) (h3 : Nat) (h4 : Nat) (h5 : Nat) (h6 : Nat) (h7 : Nat) (h8 : Nat) (h9 : Nat) (v2 : Int32) (v3 : Int32) (v4 : Int32) (v5 : Int32) (v6 : Int32) (v7 : Int32) (v8 : Int32) (v9 : Int32) (v10 : Int32) (v11 : Int32) (g : Nat → Int32) (o : Int32 × Int32) : va_W := [(h0, .inr (11, [.ref h1, .ref h2, .ref h3, .ref h4, .ref h5, .int o.2, .int v2, .int v3, .int v4, .int v5, .ref h6, .int v6, .ref h7, .ref h8, .ref h9, .int v7, .int v8, .int v9, .int v10, .int v11])), (h1, .inl (cy 0, 64, .inl (g)))]
set_option maxHeartbeats 4000000 in
set_option maxRecDepth 100000 in
theorem c_X9_warnings_ok (l : Launch) {E : zEn} (hE : zEok E) (D : zG) (cy : Nat → ClassId) (h0 h1 h2 h3 h4 h5 h6 h7 h8 h9 : Nat) (v1 : Int32) (v2 : Int32) (v3 : Int32) (v4 : Int32) (v5 : Int32) (v6 : Int32) (v7 : Int32) (v8 : Int32) (v9 : Int32) (v10 : Int32) (v11 : Int32) (g : Nat → Int32) (hr : g 0 = 1) (sz : Nat) : Met l yX9_warnings (zws yX9_warnings cX9_warnings 1 (some .int)) { frames := 2, cells := 0, slots := 0, locals := 41 } (zPre E D cy [.ref h0] [(h0, .inr (11, [.ref h1, .ref h2, .ref h3, .ref h4, .ref h5, .int v1, .int v2, .int v3, .int v4, .int v5, .ref h6, .int v6, .ref h7, .ref h8, .ref h9, .int v7, .int v8, .int v9, .int v10, .int v11])), (h1, .inl (cy 0, 64, .inl (g)))] sz) (zQi D ((q_X9_warnings_ok cy h0 h1 h2 h3 h4 h5 h6 h7 h8 h9 v2 v3 v4 v5 v6 v7 v8 v9 v10 v11 g) (n_X9_warnings_ok g)) (va_A [(h0, .inr (11, [.ref h1, .ref h2, .ref h3, .ref h4, .ref h5, .int v1, .int v2, .int v3, .int v4, .int v5, .ref h6, .int v6, .ref h7, .ref h8, .ref h9, .int v7, .int v8, .int v9, .int v10, .int v11])), (h1, .inl (cy 0, 64, .inl (g)))] sz) ((n_X9_warnings_ok g).1)) 0 0 (va_A [(h0, .inr (11, [.ref h1, .ref h2, .ref h3, .ref h4, .ref h5, .int v1, .int v2, .int v3, .int v4, .int v5, .ref h6, .int v6, .ref h7, .ref h8, .ref h9, .int v7, .int v8, .int v9, .int v10, .int v11])), (h1, .inl (cy 0, 64, .inl (g)))] sz) := by
  refine z_of (Qc := fun A => zQi D ((q_X9_warnings_ok cy h0 h1 h2 h3 h4 h5 h6 h7 h8 h9 v2 v3 v4 v5 v6 v7 v8 v9 v10 v11 g) (n_X9_warnings_ok g)) A ((n_X9_warnings_ok g).1)) (by decide +kernel) (Nat.le_of_ble_eq_true rfl) rfl ?_
  intro pG eN sT mI below meth cO A ls C hRT hnm hA hP hD hS hE0 hl
  have hX := C.x
  have hB := C.b
  refine lv_aload_n hX hB dX9_warnings_0 rfl (lv_at hl 0 rfl) ?_
  refine lv_aload_n hX hB dX9_warnings_1 rfl (lv_at hl 0 rfl) ?_
  refine fg_X9_7 C hP 0 rfl rfl dX9_warnings_2 ?_
  refine lv_bipush (v := 9) hX hB dX9_warnings_5 (by decide) ?_
  refine z_iald C hP 1 rfl (k := 9) (zlit 9) (by decide) (by decide) (v := g 9) rfl dX9_warnings_7 ?_
  refine z_callVi (isC := [0, 1]) (isR := []) (isO := [0, 1]) (n_X9_running_ok (g 9)) (q_X9_running_ok cy h0 h1 h2 h3 h4 h5 h6 h7 h8 h9 v2 v3 v4 v5 v6 v7 v8 v9 v10 v11 g) (fun o_1 => [(h0, .inr (11, [.ref h1, .ref h2, .ref h3, .ref h4, .ref h5, .int o_1.2, .int v2, .int v3, .int v4, .int v5, .ref h6, .int v6, .ref h7, .ref h8, .ref h9, .int v7, .int v8, .int v9, .int v10, .int v11])), (h1, .inl (cy 0, 64, .inl (g)))]) (fun o_1 => o_1.1) (c_X9_running_ok l hE D cy h0 h1 h2 h3 h4 h5 h6 h7 h8 h9 v1 v2 v3 v4 v5 v6 v7 v8 v9 v10 v11 g (g 9) hr) hE C zs_X9_168 ⟨Nat.le_of_ble_eq_true rfl, Nat.le_of_ble_eq_true rfl⟩ hP hD hS hA hE0 ⟨rfl, rfl, rfl, by decide, rfl, rfl, rfl⟩ 0 rfl rfl rfl rfl hl.1 (Nat.le_of_ble_eq_true rfl) rfl dX9_warnings_8 ⟨Nat.le_of_ble_eq_true rfl, Nat.le_of_ble_eq_true rfl⟩ (fun o_1 H locs eo_1 hP hD hS => ?_)
  exact z_iret' (o_1.1, o_1.2) (w' := q_X9_warnings_ok cy h0 h1 h2 h3 h4 h5 h6 h7 h8 h9 v2 v3 v4 v5 v6 v7 v8 v9 v10 v11 g) (r0 := (fun (o : Int32 × Int32) => o.1)) (by simp only [n_X9_warnings_ok, ← eo_1]) C hRT hP hD hS (Nat.le_of_ble_eq_true rfl) (Nat.le_of_ble_eq_true rfl) rfl rfl dX9_warnings_11

def n_X9_warnings_1  : Int32 :=
  let o_1 := n_X9_running_1
  o_1
def q_X9_warnings_1 (cy : Nat → ClassId) (h0 : Nat) (h1 : Nat) (h2 : Nat) (h3 : Nat) (h4 : Nat) (h5 : Nat) (h6 : Nat) (h7 : Nat) (h8 : Nat) (h9 : Nat) (v2 : Int32) (v3 : Int32) (v4 : Int32) (v5 : Int32) (v6 : Int32) (v7 : Int32) (v8 : Int32) (v9 : Int32) (v10 : Int32) (v11 : Int32) (g : Nat → Int32) (o : Int32) : va_W := [(h0, .inr (11, [.ref h1, .ref h2, .ref h3, .ref h4, .ref h5, .int o, .int v2, .int v3, .int v4, .int v5, .ref h6, .int v6, .ref h7, .ref h8, .ref h9, .int v7, .int v8, .int v9, .int v10, .int v11])), (h1, .inl (cy 0, 64, .inl (g)))]
set_option maxHeartbeats 4000000 in
set_option maxRecDepth 100000 in
theorem c_X9_warnings_1 (l : Launch) {E : zEn} (hE : zEok E) (D : zG) (cy : Nat → ClassId) (h0 h1 h2 h3 h4 h5 h6 h7 h8 h9 : Nat) (v1 : Int32) (v2 : Int32) (v3 : Int32) (v4 : Int32) (v5 : Int32) (v6 : Int32) (v7 : Int32) (v8 : Int32) (v9 : Int32) (v10 : Int32) (v11 : Int32) (g : Nat → Int32) (hr : ¬ g 0 = 1) (sz : Nat) : Met l yX9_warnings (zws yX9_warnings cX9_warnings 1 (some .int)) { frames := 2, cells := 0, slots := 0, locals := 41 } (zPre E D cy [.ref h0] [(h0, .inr (11, [.ref h1, .ref h2, .ref h3, .ref h4, .ref h5, .int v1, .int v2, .int v3, .int v4, .int v5, .ref h6, .int v6, .ref h7, .ref h8, .ref h9, .int v7, .int v8, .int v9, .int v10, .int v11])), (h1, .inl (cy 0, 64, .inl (g)))] sz) (zQi D ((q_X9_warnings_1 cy h0 h1 h2 h3 h4 h5 h6 h7 h8 h9 v2 v3 v4 v5 v6 v7 v8 v9 v10 v11 g) n_X9_warnings_1) (va_A [(h0, .inr (11, [.ref h1, .ref h2, .ref h3, .ref h4, .ref h5, .int v1, .int v2, .int v3, .int v4, .int v5, .ref h6, .int v6, .ref h7, .ref h8, .ref h9, .int v7, .int v8, .int v9, .int v10, .int v11])), (h1, .inl (cy 0, 64, .inl (g)))] sz) (0)) 0 0 (va_A [(h0, .inr (11, [.ref h1, .ref h2, .ref h3, .ref h4, .ref h5, .int v1, .int v2, .int v3, .int v4, .int v5, .ref h6, .int v6, .ref h7, .ref h8, .ref h9, .int v7, .int v8, .int v9, .int v10, .int v11])), (h1, .inl (cy 0, 64, .inl (g)))] sz) := by
  refine z_of (Qc := fun A => zQi D ((q_X9_warnings_1 cy h0 h1 h2 h3 h4 h5 h6 h7 h8 h9 v2 v3 v4 v5 v6 v7 v8 v9 v10 v11 g) n_X9_warnings_1) A (0)) (by decide +kernel) (Nat.le_of_ble_eq_true rfl) rfl ?_
  intro pG eN sT mI below meth cO A ls C hRT hnm hA hP hD hS hE0 hl
  have hX := C.x
  have hB := C.b
  refine lv_aload_n hX hB dX9_warnings_0 rfl (lv_at hl 0 rfl) ?_
  refine lv_aload_n hX hB dX9_warnings_1 rfl (lv_at hl 0 rfl) ?_
  refine fg_X9_7 C hP 0 rfl rfl dX9_warnings_2 ?_
  refine lv_bipush (v := 9) hX hB dX9_warnings_5 (by decide) ?_
  refine z_iald C hP 1 rfl (k := 9) (zlit 9) (by decide) (by decide) (v := g 9) rfl dX9_warnings_7 ?_
  refine z_callVi (isC := [0, 1]) (isR := []) (isO := [0, 1]) (n_X9_running_1) (q_X9_running_1 cy h0 h1 h2 h3 h4 h5 h6 h7 h8 h9 v2 v3 v4 v5 v6 v7 v8 v9 v10 v11 g) (fun o_1 => [(h0, .inr (11, [.ref h1, .ref h2, .ref h3, .ref h4, .ref h5, .int o_1, .int v2, .int v3, .int v4, .int v5, .ref h6, .int v6, .ref h7, .ref h8, .ref h9, .int v7, .int v8, .int v9, .int v10, .int v11])), (h1, .inl (cy 0, 64, .inl (g)))]) (fun o_1 => 0) (c_X9_running_1 l hE D cy h0 h1 h2 h3 h4 h5 h6 h7 h8 h9 v1 v2 v3 v4 v5 v6 v7 v8 v9 v10 v11 g (g 9) hr) hE C zs_X9_168 ⟨Nat.le_of_ble_eq_true rfl, Nat.le_of_ble_eq_true rfl⟩ hP hD hS hA hE0 ⟨rfl, rfl, rfl, by decide, rfl, rfl, rfl⟩ 0 rfl rfl rfl rfl hl.1 (Nat.le_of_ble_eq_true rfl) rfl dX9_warnings_8 ⟨Nat.le_of_ble_eq_true rfl, Nat.le_of_ble_eq_true rfl⟩ (fun o_1 H locs eo_1 hP hD hS => ?_)
  exact z_iret' o_1 (w' := q_X9_warnings_1 cy h0 h1 h2 h3 h4 h5 h6 h7 h8 h9 v2 v3 v4 v5 v6 v7 v8 v9 v10 v11 g) (r0 := (fun (o : Int32) => 0)) (by simp only [n_X9_warnings_1, ← eo_1]) C hRT hP hD hS (Nat.le_of_ble_eq_true rfl) (Nat.le_of_ble_eq_true rfl) rfl rfl dX9_warnings_11

def n_X9_isTilted_ok (g : Nat → Int32) : Int32 × Int32 :=
  let o_1 := n_X9_running_ok (g 11)
  if o_1.1 = 1 then
    (1, o_1.2)
  else
    (0, o_1.2)
def q_X9_isTilted_ok (cy : Nat → ClassId) (h0 : Nat) (h1 : Nat) (h2 : Nat) (h3 : Nat) (h4 : Nat) (h5 : Nat) (h6 : Nat) (h7 : Nat) (h8 : Nat) (h9 : Nat) (v2 : Int32) (v3 : Int32) (v4 : Int32) (v5 : Int32) (v6 : Int32) (v7 : Int32) (v8 : Int32) (v9 : Int32) (v10 : Int32) (v11 : Int32) (g : Nat → Int32) (o : Int32 × Int32) : va_W := [(h0, .inr (11, [.ref h1, .ref h2, .ref h3, .ref h4, .ref h5, .int o.2, .int v2, .int v3, .int v4, .int v5, .ref h6, .int v6, .ref h7, .ref h8, .ref h9, .int v7, .int v8, .int v9, .int v10, .int v11])), (h1, .inl (cy 0, 64, .inl (g)))]
set_option maxHeartbeats 4000000 in
set_option maxRecDepth 100000 in
theorem c_X9_isTilted_ok (l : Launch) {E : zEn} (hE : zEok E) (D : zG) (cy : Nat → ClassId) (h0 h1 h2 h3 h4 h5 h6 h7 h8 h9 : Nat) (v1 : Int32) (v2 : Int32) (v3 : Int32) (v4 : Int32) (v5 : Int32) (v6 : Int32) (v7 : Int32) (v8 : Int32) (v9 : Int32) (v10 : Int32) (v11 : Int32) (g : Nat → Int32) (hr : g 0 = 1) (sz : Nat) : Met l yX9_isTilted (zws yX9_isTilted cX9_isTilted 1 (some .boolean)) { frames := 2, cells := 0, slots := 0, locals := 41 } (zPre E D cy [.ref h0] [(h0, .inr (11, [.ref h1, .ref h2, .ref h3, .ref h4, .ref h5, .int v1, .int v2, .int v3, .int v4, .int v5, .ref h6, .int v6, .ref h7, .ref h8, .ref h9, .int v7, .int v8, .int v9, .int v10, .int v11])), (h1, .inl (cy 0, 64, .inl (g)))] sz) (zQi D ((q_X9_isTilted_ok cy h0 h1 h2 h3 h4 h5 h6 h7 h8 h9 v2 v3 v4 v5 v6 v7 v8 v9 v10 v11 g) (n_X9_isTilted_ok g)) (va_A [(h0, .inr (11, [.ref h1, .ref h2, .ref h3, .ref h4, .ref h5, .int v1, .int v2, .int v3, .int v4, .int v5, .ref h6, .int v6, .ref h7, .ref h8, .ref h9, .int v7, .int v8, .int v9, .int v10, .int v11])), (h1, .inl (cy 0, 64, .inl (g)))] sz) ((n_X9_isTilted_ok g).1)) 0 0 (va_A [(h0, .inr (11, [.ref h1, .ref h2, .ref h3, .ref h4, .ref h5, .int v1, .int v2, .int v3, .int v4, .int v5, .ref h6, .int v6, .ref h7, .ref h8, .ref h9, .int v7, .int v8, .int v9, .int v10, .int v11])), (h1, .inl (cy 0, 64, .inl (g)))] sz) := by
  refine z_of (Qc := fun A => zQi D ((q_X9_isTilted_ok cy h0 h1 h2 h3 h4 h5 h6 h7 h8 h9 v2 v3 v4 v5 v6 v7 v8 v9 v10 v11 g) (n_X9_isTilted_ok g)) A ((n_X9_isTilted_ok g).1)) (by decide +kernel) (Nat.le_of_ble_eq_true rfl) rfl ?_
  intro pG eN sT mI below meth cO A ls C hRT hnm hA hP hD hS hE0 hl
  have hX := C.x
  have hB := C.b
  refine lv_aload_n hX hB dX9_isTilted_0 rfl (lv_at hl 0 rfl) ?_
  refine lv_aload_n hX hB dX9_isTilted_1 rfl (lv_at hl 0 rfl) ?_
  refine fg_X9_7 C hP 0 rfl rfl dX9_isTilted_2 ?_
  refine lv_bipush (v := 11) hX hB dX9_isTilted_5 (by decide) ?_
  refine z_iald C hP 1 rfl (k := 11) (zlit 11) (by decide) (by decide) (v := g 11) rfl dX9_isTilted_7 ?_
  refine z_callVi (isC := [0, 1]) (isR := []) (isO := [0, 1]) (n_X9_running_ok (g 11)) (q_X9_running_ok cy h0 h1 h2 h3 h4 h5 h6 h7 h8 h9 v2 v3 v4 v5 v6 v7 v8 v9 v10 v11 g) (fun o_1 => [(h0, .inr (11, [.ref h1, .ref h2, .ref h3, .ref h4, .ref h5, .int o_1.2, .int v2, .int v3, .int v4, .int v5, .ref h6, .int v6, .ref h7, .ref h8, .ref h9, .int v7, .int v8, .int v9, .int v10, .int v11])), (h1, .inl (cy 0, 64, .inl (g)))]) (fun o_1 => o_1.1) (c_X9_running_ok l hE D cy h0 h1 h2 h3 h4 h5 h6 h7 h8 h9 v1 v2 v3 v4 v5 v6 v7 v8 v9 v10 v11 g (g 11) hr) hE C zs_X9_168 ⟨Nat.le_of_ble_eq_true rfl, Nat.le_of_ble_eq_true rfl⟩ hP hD hS hA hE0 ⟨rfl, rfl, rfl, by decide, rfl, rfl, rfl⟩ 0 rfl rfl rfl rfl hl.1 (Nat.le_of_ble_eq_true rfl) rfl dX9_isTilted_8 ⟨Nat.le_of_ble_eq_true rfl, Nat.le_of_ble_eq_true rfl⟩ (fun o_1 H locs eo_1 hP hD hS => ?_)
  refine lv_iconst (v := 1) hX hB dX9_isTilted_11 (by decide) ?_
  refine lv_icmp_ne (tgt := 19) hX hB dX9_isTilted_12 (by decide) (fun c_2 => ?_) (fun c_2 => ?_)
  · refine lv_iconst (v := 0) hX hB dX9_isTilted_19 (by decide) ?_
    exact z_zret' (0, o_1.2) (w' := q_X9_isTilted_ok cy h0 h1 h2 h3 h4 h5 h6 h7 h8 h9 v2 v3 v4 v5 v6 v7 v8 v9 v10 v11 g) (r0 := (fun (o : Int32 × Int32) => o.1)) (by simp only [n_X9_isTilted_ok, ← eo_1, if_neg c_2]) C hRT (zb01 (Or.inl rfl)) hP hD hS (Nat.le_of_ble_eq_true rfl) (Nat.le_of_ble_eq_true rfl) rfl rfl dX9_isTilted_20
  · refine lv_iconst (v := 1) hX hB dX9_isTilted_15 (by decide) ?_
    refine lv_goto (tgt := 20) hX hB dX9_isTilted_16 (by decide) ?_
    exact z_zret' (1, o_1.2) (w' := q_X9_isTilted_ok cy h0 h1 h2 h3 h4 h5 h6 h7 h8 h9 v2 v3 v4 v5 v6 v7 v8 v9 v10 v11 g) (r0 := (fun (o : Int32 × Int32) => o.1)) (by simp only [n_X9_isTilted_ok, ← eo_1, if_pos c_2]) C hRT (zb01 (Or.inr rfl)) hP hD hS (Nat.le_of_ble_eq_true rfl) (Nat.le_of_ble_eq_true rfl) rfl rfl dX9_isTilted_20

def n_X9_isTilted_1  : Int32 :=
  let o_1 := n_X9_running_1
  o_1
def q_X9_isTilted_1 (cy : Nat → ClassId) (h0 : Nat) (h1 : Nat) (h2 : Nat) (h3 : Nat) (h4 : Nat) (h5 : Nat) (h6 : Nat) (h7 : Nat) (h8 : Nat) (h9 : Nat) (v2 : Int32) (v3 : Int32) (v4 : Int32) (v5 : Int32) (v6 : Int32) (v7 : Int32) (v8 : Int32) (v9 : Int32) (v10 : Int32) (v11 : Int32) (g : Nat → Int32) (o : Int32) : va_W := [(h0, .inr (11, [.ref h1, .ref h2, .ref h3, .ref h4, .ref h5, .int o, .int v2, .int v3, .int v4, .int v5, .ref h6, .int v6, .ref h7, .ref h8, .ref h9, .int v7, .int v8, .int v9, .int v10, .int v11])), (h1, .inl (cy 0, 64, .inl (g)))]
set_option maxHeartbeats 4000000 in
set_option maxRecDepth 100000 in
theorem c_X9_isTilted_1 (l : Launch) {E : zEn} (hE : zEok E) (D : zG) (cy : Nat → ClassId) (h0 h1 h2 h3 h4 h5 h6 h7 h8 h9 : Nat) (v1 : Int32) (v2 : Int32) (v3 : Int32) (v4 : Int32) (v5 : Int32) (v6 : Int32) (v7 : Int32) (v8 : Int32) (v9 : Int32) (v10 : Int32) (v11 : Int32) (g : Nat → Int32) (hr : ¬ g 0 = 1) (sz : Nat) : Met l yX9_isTilted (zws yX9_isTilted cX9_isTilted 1 (some .boolean)) { frames := 2, cells := 0, slots := 0, locals := 41 } (zPre E D cy [.ref h0] [(h0, .inr (11, [.ref h1, .ref h2, .ref h3, .ref h4, .ref h5, .int v1, .int v2, .int v3, .int v4, .int v5, .ref h6, .int v6, .ref h7, .ref h8, .ref h9, .int v7, .int v8, .int v9, .int v10, .int v11])), (h1, .inl (cy 0, 64, .inl (g)))] sz) (zQi D ((q_X9_isTilted_1 cy h0 h1 h2 h3 h4 h5 h6 h7 h8 h9 v2 v3 v4 v5 v6 v7 v8 v9 v10 v11 g) n_X9_isTilted_1) (va_A [(h0, .inr (11, [.ref h1, .ref h2, .ref h3, .ref h4, .ref h5, .int v1, .int v2, .int v3, .int v4, .int v5, .ref h6, .int v6, .ref h7, .ref h8, .ref h9, .int v7, .int v8, .int v9, .int v10, .int v11])), (h1, .inl (cy 0, 64, .inl (g)))] sz) (0)) 0 0 (va_A [(h0, .inr (11, [.ref h1, .ref h2, .ref h3, .ref h4, .ref h5, .int v1, .int v2, .int v3, .int v4, .int v5, .ref h6, .int v6, .ref h7, .ref h8, .ref h9, .int v7, .int v8, .int v9, .int v10, .int v11])), (h1, .inl (cy 0, 64, .inl (g)))] sz) := by
  refine z_of (Qc := fun A => zQi D ((q_X9_isTilted_1 cy h0 h1 h2 h3 h4 h5 h6 h7 h8 h9 v2 v3 v4 v5 v6 v7 v8 v9 v10 v11 g) n_X9_isTilted_1) A (0)) (by decide +kernel) (Nat.le_of_ble_eq_true rfl) rfl ?_
  intro pG eN sT mI below meth cO A ls C hRT hnm hA hP hD hS hE0 hl
  have hX := C.x
  have hB := C.b
  refine lv_aload_n hX hB dX9_isTilted_0 rfl (lv_at hl 0 rfl) ?_
  refine lv_aload_n hX hB dX9_isTilted_1 rfl (lv_at hl 0 rfl) ?_
  refine fg_X9_7 C hP 0 rfl rfl dX9_isTilted_2 ?_
  refine lv_bipush (v := 11) hX hB dX9_isTilted_5 (by decide) ?_
  refine z_iald C hP 1 rfl (k := 11) (zlit 11) (by decide) (by decide) (v := g 11) rfl dX9_isTilted_7 ?_
  refine z_callVi (isC := [0, 1]) (isR := []) (isO := [0, 1]) (n_X9_running_1) (q_X9_running_1 cy h0 h1 h2 h3 h4 h5 h6 h7 h8 h9 v2 v3 v4 v5 v6 v7 v8 v9 v10 v11 g) (fun o_1 => [(h0, .inr (11, [.ref h1, .ref h2, .ref h3, .ref h4, .ref h5, .int o_1, .int v2, .int v3, .int v4, .int v5, .ref h6, .int v6, .ref h7, .ref h8, .ref h9, .int v7, .int v8, .int v9, .int v10, .int v11])), (h1, .inl (cy 0, 64, .inl (g)))]) (fun o_1 => 0) (c_X9_running_1 l hE D cy h0 h1 h2 h3 h4 h5 h6 h7 h8 h9 v1 v2 v3 v4 v5 v6 v7 v8 v9 v10 v11 g (g 11) hr) hE C zs_X9_168 ⟨Nat.le_of_ble_eq_true rfl, Nat.le_of_ble_eq_true rfl⟩ hP hD hS hA hE0 ⟨rfl, rfl, rfl, by decide, rfl, rfl, rfl⟩ 0 rfl rfl rfl rfl hl.1 (Nat.le_of_ble_eq_true rfl) rfl dX9_isTilted_8 ⟨Nat.le_of_ble_eq_true rfl, Nat.le_of_ble_eq_true rfl⟩ (fun o_1 H locs eo_1 hP hD hS => ?_)
  refine lv_iconst (v := 1) hX hB dX9_isTilted_11 (by decide) ?_
  refine lv_icmp_ne (tgt := 19) hX hB dX9_isTilted_12 (by decide) (fun _ => ?_) (fun c => absurd c (by decide))
  refine lv_iconst (v := 0) hX hB dX9_isTilted_19 (by decide) ?_
  exact z_zret' o_1 (w' := q_X9_isTilted_1 cy h0 h1 h2 h3 h4 h5 h6 h7 h8 h9 v2 v3 v4 v5 v6 v7 v8 v9 v10 v11 g) (r0 := (fun (o : Int32) => 0)) (by simp only [n_X9_isTilted_1, ← eo_1]) C hRT (zb01 (Or.inl rfl)) hP hD hS (Nat.le_of_ble_eq_true rfl) (Nat.le_of_ble_eq_true rfl) rfl rfl dX9_isTilted_20

def n_X9_hits_ok (g : Nat → Int32) : Int32 × Int32 :=
  let o_1 := n_X9_running_ok (g 10)
  (o_1.1, o_1.2)
def q_X9_hits_ok (cy : Nat → ClassId) (h0 : Nat) (h1 : Nat) (h2 : Nat) (h3 : Nat) (h4 : Nat) (h5 : Nat) (h6 : Nat) (h7 : Nat) (h8 : Nat) (h9 : Nat) (v2 : Int32) (v3 : Int32) (v4 : Int32) (v5 : Int32) (v6 : Int32) (v7 : Int32) (v8 : Int32) (v9 : Int32) (v10 : Int32) (v11 : Int32) (g : Nat → Int32) (o : Int32 × Int32) : va_W := [(h0, .inr (11, [.ref h1, .ref h2, .ref h3, .ref h4, .ref h5, .int o.2, .int v2, .int v3, .int v4, .int v5, .ref h6, .int v6, .ref h7, .ref h8, .ref h9, .int v7, .int v8, .int v9, .int v10, .int v11])), (h1, .inl (cy 0, 64, .inl (g)))]
set_option maxHeartbeats 4000000 in
set_option maxRecDepth 100000 in
theorem c_X9_hits_ok (l : Launch) {E : zEn} (hE : zEok E) (D : zG) (cy : Nat → ClassId) (h0 h1 h2 h3 h4 h5 h6 h7 h8 h9 : Nat) (v1 : Int32) (v2 : Int32) (v3 : Int32) (v4 : Int32) (v5 : Int32) (v6 : Int32) (v7 : Int32) (v8 : Int32) (v9 : Int32) (v10 : Int32) (v11 : Int32) (g : Nat → Int32) (hr : g 0 = 1) (sz : Nat) : Met l yX9_hits (zws yX9_hits cX9_hits 1 (some .int)) { frames := 2, cells := 0, slots := 0, locals := 41 } (zPre E D cy [.ref h0] [(h0, .inr (11, [.ref h1, .ref h2, .ref h3, .ref h4, .ref h5, .int v1, .int v2, .int v3, .int v4, .int v5, .ref h6, .int v6, .ref h7, .ref h8, .ref h9, .int v7, .int v8, .int v9, .int v10, .int v11])), (h1, .inl (cy 0, 64, .inl (g)))] sz) (zQi D ((q_X9_hits_ok cy h0 h1 h2 h3 h4 h5 h6 h7 h8 h9 v2 v3 v4 v5 v6 v7 v8 v9 v10 v11 g) (n_X9_hits_ok g)) (va_A [(h0, .inr (11, [.ref h1, .ref h2, .ref h3, .ref h4, .ref h5, .int v1, .int v2, .int v3, .int v4, .int v5, .ref h6, .int v6, .ref h7, .ref h8, .ref h9, .int v7, .int v8, .int v9, .int v10, .int v11])), (h1, .inl (cy 0, 64, .inl (g)))] sz) ((n_X9_hits_ok g).1)) 0 0 (va_A [(h0, .inr (11, [.ref h1, .ref h2, .ref h3, .ref h4, .ref h5, .int v1, .int v2, .int v3, .int v4, .int v5, .ref h6, .int v6, .ref h7, .ref h8, .ref h9, .int v7, .int v8, .int v9, .int v10, .int v11])), (h1, .inl (cy 0, 64, .inl (g)))] sz) := by
  refine z_of (Qc := fun A => zQi D ((q_X9_hits_ok cy h0 h1 h2 h3 h4 h5 h6 h7 h8 h9 v2 v3 v4 v5 v6 v7 v8 v9 v10 v11 g) (n_X9_hits_ok g)) A ((n_X9_hits_ok g).1)) (by decide +kernel) (Nat.le_of_ble_eq_true rfl) rfl ?_
  intro pG eN sT mI below meth cO A ls C hRT hnm hA hP hD hS hE0 hl
  have hX := C.x
  have hB := C.b
  refine lv_aload_n hX hB dX9_hits_0 rfl (lv_at hl 0 rfl) ?_
  refine lv_aload_n hX hB dX9_hits_1 rfl (lv_at hl 0 rfl) ?_
  refine fg_X9_7 C hP 0 rfl rfl dX9_hits_2 ?_
  refine lv_bipush (v := 10) hX hB dX9_hits_5 (by decide) ?_
  refine z_iald C hP 1 rfl (k := 10) (zlit 10) (by decide) (by decide) (v := g 10) rfl dX9_hits_7 ?_
  refine z_callVi (isC := [0, 1]) (isR := []) (isO := [0, 1]) (n_X9_running_ok (g 10)) (q_X9_running_ok cy h0 h1 h2 h3 h4 h5 h6 h7 h8 h9 v2 v3 v4 v5 v6 v7 v8 v9 v10 v11 g) (fun o_1 => [(h0, .inr (11, [.ref h1, .ref h2, .ref h3, .ref h4, .ref h5, .int o_1.2, .int v2, .int v3, .int v4, .int v5, .ref h6, .int v6, .ref h7, .ref h8, .ref h9, .int v7, .int v8, .int v9, .int v10, .int v11])), (h1, .inl (cy 0, 64, .inl (g)))]) (fun o_1 => o_1.1) (c_X9_running_ok l hE D cy h0 h1 h2 h3 h4 h5 h6 h7 h8 h9 v1 v2 v3 v4 v5 v6 v7 v8 v9 v10 v11 g (g 10) hr) hE C zs_X9_168 ⟨Nat.le_of_ble_eq_true rfl, Nat.le_of_ble_eq_true rfl⟩ hP hD hS hA hE0 ⟨rfl, rfl, rfl, by decide, rfl, rfl, rfl⟩ 0 rfl rfl rfl rfl hl.1 (Nat.le_of_ble_eq_true rfl) rfl dX9_hits_8 ⟨Nat.le_of_ble_eq_true rfl, Nat.le_of_ble_eq_true rfl⟩ (fun o_1 H locs eo_1 hP hD hS => ?_)
  exact z_iret' (o_1.1, o_1.2) (w' := q_X9_hits_ok cy h0 h1 h2 h3 h4 h5 h6 h7 h8 h9 v2 v3 v4 v5 v6 v7 v8 v9 v10 v11 g) (r0 := (fun (o : Int32 × Int32) => o.1)) (by simp only [n_X9_hits_ok, ← eo_1]) C hRT hP hD hS (Nat.le_of_ble_eq_true rfl) (Nat.le_of_ble_eq_true rfl) rfl rfl dX9_hits_11

def n_X9_hits_1  : Int32 :=
  let o_1 := n_X9_running_1
  o_1
def q_X9_hits_1 (cy : Nat → ClassId) (h0 : Nat) (h1 : Nat) (h2 : Nat) (h3 : Nat) (h4 : Nat) (h5 : Nat) (h6 : Nat) (h7 : Nat) (h8 : Nat) (h9 : Nat) (v2 : Int32) (v3 : Int32) (v4 : Int32) (v5 : Int32) (v6 : Int32) (v7 : Int32) (v8 : Int32) (v9 : Int32) (v10 : Int32) (v11 : Int32) (g : Nat → Int32) (o : Int32) : va_W := [(h0, .inr (11, [.ref h1, .ref h2, .ref h3, .ref h4, .ref h5, .int o, .int v2, .int v3, .int v4, .int v5, .ref h6, .int v6, .ref h7, .ref h8, .ref h9, .int v7, .int v8, .int v9, .int v10, .int v11])), (h1, .inl (cy 0, 64, .inl (g)))]
set_option maxHeartbeats 4000000 in
set_option maxRecDepth 100000 in
theorem c_X9_hits_1 (l : Launch) {E : zEn} (hE : zEok E) (D : zG) (cy : Nat → ClassId) (h0 h1 h2 h3 h4 h5 h6 h7 h8 h9 : Nat) (v1 : Int32) (v2 : Int32) (v3 : Int32) (v4 : Int32) (v5 : Int32) (v6 : Int32) (v7 : Int32) (v8 : Int32) (v9 : Int32) (v10 : Int32) (v11 : Int32) (g : Nat → Int32) (hr : ¬ g 0 = 1) (sz : Nat) : Met l yX9_hits (zws yX9_hits cX9_hits 1 (some .int)) { frames := 2, cells := 0, slots := 0, locals := 41 } (zPre E D cy [.ref h0] [(h0, .inr (11, [.ref h1, .ref h2, .ref h3, .ref h4, .ref h5, .int v1, .int v2, .int v3, .int v4, .int v5, .ref h6, .int v6, .ref h7, .ref h8, .ref h9, .int v7, .int v8, .int v9, .int v10, .int v11])), (h1, .inl (cy 0, 64, .inl (g)))] sz) (zQi D ((q_X9_hits_1 cy h0 h1 h2 h3 h4 h5 h6 h7 h8 h9 v2 v3 v4 v5 v6 v7 v8 v9 v10 v11 g) n_X9_hits_1) (va_A [(h0, .inr (11, [.ref h1, .ref h2, .ref h3, .ref h4, .ref h5, .int v1, .int v2, .int v3, .int v4, .int v5, .ref h6, .int v6, .ref h7, .ref h8, .ref h9, .int v7, .int v8, .int v9, .int v10, .int v11])), (h1, .inl (cy 0, 64, .inl (g)))] sz) (0)) 0 0 (va_A [(h0, .inr (11, [.ref h1, .ref h2, .ref h3, .ref h4, .ref h5, .int v1, .int v2, .int v3, .int v4, .int v5, .ref h6, .int v6, .ref h7, .ref h8, .ref h9, .int v7, .int v8, .int v9, .int v10, .int v11])), (h1, .inl (cy 0, 64, .inl (g)))] sz) := by
  refine z_of (Qc := fun A => zQi D ((q_X9_hits_1 cy h0 h1 h2 h3 h4 h5 h6 h7 h8 h9 v2 v3 v4 v5 v6 v7 v8 v9 v10 v11 g) n_X9_hits_1) A (0)) (by decide +kernel) (Nat.le_of_ble_eq_true rfl) rfl ?_
  intro pG eN sT mI below meth cO A ls C hRT hnm hA hP hD hS hE0 hl
  have hX := C.x
  have hB := C.b
  refine lv_aload_n hX hB dX9_hits_0 rfl (lv_at hl 0 rfl) ?_
  refine lv_aload_n hX hB dX9_hits_1 rfl (lv_at hl 0 rfl) ?_
  refine fg_X9_7 C hP 0 rfl rfl dX9_hits_2 ?_
  refine lv_bipush (v := 10) hX hB dX9_hits_5 (by decide) ?_
  refine z_iald C hP 1 rfl (k := 10) (zlit 10) (by decide) (by decide) (v := g 10) rfl dX9_hits_7 ?_
  refine z_callVi (isC := [0, 1]) (isR := []) (isO := [0, 1]) (n_X9_running_1) (q_X9_running_1 cy h0 h1 h2 h3 h4 h5 h6 h7 h8 h9 v2 v3 v4 v5 v6 v7 v8 v9 v10 v11 g) (fun o_1 => [(h0, .inr (11, [.ref h1, .ref h2, .ref h3, .ref h4, .ref h5, .int o_1, .int v2, .int v3, .int v4, .int v5, .ref h6, .int v6, .ref h7, .ref h8, .ref h9, .int v7, .int v8, .int v9, .int v10, .int v11])), (h1, .inl (cy 0, 64, .inl (g)))]) (fun o_1 => 0) (c_X9_running_1 l hE D cy h0 h1 h2 h3 h4 h5 h6 h7 h8 h9 v1 v2 v3 v4 v5 v6 v7 v8 v9 v10 v11 g (g 10) hr) hE C zs_X9_168 ⟨Nat.le_of_ble_eq_true rfl, Nat.le_of_ble_eq_true rfl⟩ hP hD hS hA hE0 ⟨rfl, rfl, rfl, by decide, rfl, rfl, rfl⟩ 0 rfl rfl rfl rfl hl.1 (Nat.le_of_ble_eq_true rfl) rfl dX9_hits_8 ⟨Nat.le_of_ble_eq_true rfl, Nat.le_of_ble_eq_true rfl⟩ (fun o_1 H locs eo_1 hP hD hS => ?_)
  exact z_iret' o_1 (w' := q_X9_hits_1 cy h0 h1 h2 h3 h4 h5 h6 h7 h8 h9 v2 v3 v4 v5 v6 v7 v8 v9 v10 v11 g) (r0 := (fun (o : Int32) => 0)) (by simp only [n_X9_hits_1, ← eo_1]) C hRT hP hD hS (Nat.le_of_ble_eq_true rfl) (Nat.le_of_ble_eq_true rfl) rfl rfl dX9_hits_11

def n_X9_wouldBeSaved_ok (g : Nat → Int32) : Int32 × Int32 :=
  let o_1 := n_X9_isSaver g
  if o_1 = 0 then
    let o_3 := n_X9_running_ok 0
    if o_3.1 = 1 then
      (1, o_3.2)
    else
      (0, o_3.2)
  else
    let o_5 := n_X9_running_ok 1
    if o_5.1 = 1 then
      (1, o_5.2)
    else
      (0, o_5.2)
def q_X9_wouldBeSaved_ok (cy : Nat → ClassId) (h0 : Nat) (h1 : Nat) (h2 : Nat) (h3 : Nat) (h4 : Nat) (h5 : Nat) (h6 : Nat) (h7 : Nat) (h8 : Nat) (h9 : Nat) (v2 : Int32) (v3 : Int32) (v4 : Int32) (v5 : Int32) (v6 : Int32) (v7 : Int32) (v8 : Int32) (v9 : Int32) (v10 : Int32) (v11 : Int32) (g : Nat → Int32) (o : Int32 × Int32) : va_W := [(h0, .inr (11, [.ref h1, .ref h2, .ref h3, .ref h4, .ref h5, .int o.2, .int v2, .int v3, .int v4, .int v5, .ref h6, .int v6, .ref h7, .ref h8, .ref h9, .int v7, .int v8, .int v9, .int v10, .int v11])), (h1, .inl (cy 0, 64, .inl (g)))]
set_option maxHeartbeats 4000000 in
set_option maxRecDepth 100000 in
theorem c_X9_wouldBeSaved_ok (l : Launch) {E : zEn} (hE : zEok E) (D : zG) (cy : Nat → ClassId) (h0 h1 h2 h3 h4 h5 h6 h7 h8 h9 : Nat) (v1 : Int32) (v2 : Int32) (v3 : Int32) (v4 : Int32) (v5 : Int32) (v6 : Int32) (v7 : Int32) (v8 : Int32) (v9 : Int32) (v10 : Int32) (v11 : Int32) (g : Nat → Int32) (hr : g 0 = 1) (sz : Nat) : Met l yX9_wouldBeSaved (zws yX9_wouldBeSaved cX9_wouldBeSaved 1 (some .boolean)) { frames := 2, cells := 0, slots := 0, locals := 41 } (zPre E D cy [.ref h0] [(h0, .inr (11, [.ref h1, .ref h2, .ref h3, .ref h4, .ref h5, .int v1, .int v2, .int v3, .int v4, .int v5, .ref h6, .int v6, .ref h7, .ref h8, .ref h9, .int v7, .int v8, .int v9, .int v10, .int v11])), (h1, .inl (cy 0, 64, .inl (g)))] sz) (zQi D ((q_X9_wouldBeSaved_ok cy h0 h1 h2 h3 h4 h5 h6 h7 h8 h9 v2 v3 v4 v5 v6 v7 v8 v9 v10 v11 g) (n_X9_wouldBeSaved_ok g)) (va_A [(h0, .inr (11, [.ref h1, .ref h2, .ref h3, .ref h4, .ref h5, .int v1, .int v2, .int v3, .int v4, .int v5, .ref h6, .int v6, .ref h7, .ref h8, .ref h9, .int v7, .int v8, .int v9, .int v10, .int v11])), (h1, .inl (cy 0, 64, .inl (g)))] sz) ((n_X9_wouldBeSaved_ok g).1)) 0 0 (va_A [(h0, .inr (11, [.ref h1, .ref h2, .ref h3, .ref h4, .ref h5, .int v1, .int v2, .int v3, .int v4, .int v5, .ref h6, .int v6, .ref h7, .ref h8, .ref h9, .int v7, .int v8, .int v9, .int v10, .int v11])), (h1, .inl (cy 0, 64, .inl (g)))] sz) := by
  refine z_of (Qc := fun A => zQi D ((q_X9_wouldBeSaved_ok cy h0 h1 h2 h3 h4 h5 h6 h7 h8 h9 v2 v3 v4 v5 v6 v7 v8 v9 v10 v11 g) (n_X9_wouldBeSaved_ok g)) A ((n_X9_wouldBeSaved_ok g).1)) (by decide +kernel) (Nat.le_of_ble_eq_true rfl) rfl ?_
  intro pG eN sT mI below meth cO A ls C hRT hnm hA hP hD hS hE0 hl
  have hX := C.x
  have hB := C.b
  refine lv_aload_n hX hB dX9_wouldBeSaved_0 rfl (lv_at hl 0 rfl) ?_
  refine lv_aload_n hX hB dX9_wouldBeSaved_1 rfl (lv_at hl 0 rfl) ?_
  refine z_callVi (isC := [0, 1]) (isR := []) (isO := [0, 1]) (n_X9_isSaver g) (q_X9_isSaver cy h0 h1 h2 h3 h4 h5 h6 h7 h8 h9 v1 v2 v3 v4 v5 v6 v7 v8 v9 v10 v11 g) (fun o_1 => [(h0, .inr (11, [.ref h1, .ref h2, .ref h3, .ref h4, .ref h5, .int v1, .int v2, .int v3, .int v4, .int v5, .ref h6, .int v6, .ref h7, .ref h8, .ref h9, .int v7, .int v8, .int v9, .int v10, .int v11])), (h1, .inl (cy 0, 64, .inl (g)))]) (fun o_1 => o_1) (c_X9_isSaver l hE D cy h0 h1 h2 h3 h4 h5 h6 h7 h8 h9 v1 v2 v3 v4 v5 v6 v7 v8 v9 v10 v11 g ) hE C zs_X9_156 ⟨Nat.le_of_ble_eq_true rfl, Nat.le_of_ble_eq_true rfl⟩ hP hD hS hA hE0 ⟨rfl, rfl, rfl, by decide, rfl, rfl, rfl⟩ 0 rfl rfl rfl rfl hl.1 (Nat.le_of_ble_eq_true rfl) rfl dX9_wouldBeSaved_2 ⟨Nat.le_of_ble_eq_true rfl, Nat.le_of_ble_eq_true rfl⟩ (fun o_1 H locs eo_1 hP hD hS => ?_)
  refine lv_if_eq (tgt := 12) hX hB dX9_wouldBeSaved_5 (by decide) (fun c_2 => ?_) (fun c_2 => ?_)
  · refine lv_iconst (v := 0) hX hB dX9_wouldBeSaved_12 (by decide) ?_
    refine z_callVi (isC := [0, 1]) (isR := []) (isO := [0, 1]) (n_X9_running_ok 0) (q_X9_running_ok cy h0 h1 h2 h3 h4 h5 h6 h7 h8 h9 v2 v3 v4 v5 v6 v7 v8 v9 v10 v11 g) (fun o_3 => [(h0, .inr (11, [.ref h1, .ref h2, .ref h3, .ref h4, .ref h5, .int o_3.2, .int v2, .int v3, .int v4, .int v5, .ref h6, .int v6, .ref h7, .ref h8, .ref h9, .int v7, .int v8, .int v9, .int v10, .int v11])), (h1, .inl (cy 0, 64, .inl (g)))]) (fun o_3 => o_3.1) (c_X9_running_ok l hE D cy h0 h1 h2 h3 h4 h5 h6 h7 h8 h9 v1 v2 v3 v4 v5 v6 v7 v8 v9 v10 v11 g 0 hr) hE C zs_X9_168 ⟨Nat.le_of_ble_eq_true rfl, Nat.le_of_ble_eq_true rfl⟩ hP hD hS hA hE0 ⟨rfl, rfl, rfl, by decide, rfl, rfl, rfl⟩ 0 rfl rfl rfl rfl hl.1 (Nat.le_of_ble_eq_true rfl) rfl dX9_wouldBeSaved_13 ⟨Nat.le_of_ble_eq_true rfl, Nat.le_of_ble_eq_true rfl⟩ (fun o_3 H locs eo_3 hP hD hS => ?_)
    refine lv_iconst (v := 1) hX hB dX9_wouldBeSaved_16 (by decide) ?_
    refine lv_icmp_ne (tgt := 24) hX hB dX9_wouldBeSaved_17 (by decide) (fun c_4 => ?_) (fun c_4 => ?_)
    · refine lv_iconst (v := 0) hX hB dX9_wouldBeSaved_24 (by decide) ?_
      exact z_zret' (0, o_3.2) (w' := q_X9_wouldBeSaved_ok cy h0 h1 h2 h3 h4 h5 h6 h7 h8 h9 v2 v3 v4 v5 v6 v7 v8 v9 v10 v11 g) (r0 := (fun (o : Int32 × Int32) => o.1)) (by simp only [n_X9_wouldBeSaved_ok, ← eo_1, if_pos c_2, ← eo_3, if_neg c_4]) C hRT (zb01 (Or.inl rfl)) hP hD hS (Nat.le_of_ble_eq_true rfl) (Nat.le_of_ble_eq_true rfl) rfl rfl dX9_wouldBeSaved_25
    · refine lv_iconst (v := 1) hX hB dX9_wouldBeSaved_20 (by decide) ?_
      refine lv_goto (tgt := 25) hX hB dX9_wouldBeSaved_21 (by decide) ?_
      exact z_zret' (1, o_3.2) (w' := q_X9_wouldBeSaved_ok cy h0 h1 h2 h3 h4 h5 h6 h7 h8 h9 v2 v3 v4 v5 v6 v7 v8 v9 v10 v11 g) (r0 := (fun (o : Int32 × Int32) => o.1)) (by simp only [n_X9_wouldBeSaved_ok, ← eo_1, if_pos c_2, ← eo_3, if_pos c_4]) C hRT (zb01 (Or.inr rfl)) hP hD hS (Nat.le_of_ble_eq_true rfl) (Nat.le_of_ble_eq_true rfl) rfl rfl dX9_wouldBeSaved_25
  · refine lv_iconst (v := 1) hX hB dX9_wouldBeSaved_8 (by decide) ?_
    refine lv_goto (tgt := 13) hX hB dX9_wouldBeSaved_9 (by decide) ?_
    refine z_callVi (isC := [0, 1]) (isR := []) (isO := [0, 1]) (n_X9_running_ok 1) (q_X9_running_ok cy h0 h1 h2 h3 h4 h5 h6 h7 h8 h9 v2 v3 v4 v5 v6 v7 v8 v9 v10 v11 g) (fun o_5 => [(h0, .inr (11, [.ref h1, .ref h2, .ref h3, .ref h4, .ref h5, .int o_5.2, .int v2, .int v3, .int v4, .int v5, .ref h6, .int v6, .ref h7, .ref h8, .ref h9, .int v7, .int v8, .int v9, .int v10, .int v11])), (h1, .inl (cy 0, 64, .inl (g)))]) (fun o_5 => o_5.1) (c_X9_running_ok l hE D cy h0 h1 h2 h3 h4 h5 h6 h7 h8 h9 v1 v2 v3 v4 v5 v6 v7 v8 v9 v10 v11 g 1 hr) hE C zs_X9_168 ⟨Nat.le_of_ble_eq_true rfl, Nat.le_of_ble_eq_true rfl⟩ hP hD hS hA hE0 ⟨rfl, rfl, rfl, by decide, rfl, rfl, rfl⟩ 0 rfl rfl rfl rfl hl.1 (Nat.le_of_ble_eq_true rfl) rfl dX9_wouldBeSaved_13 ⟨Nat.le_of_ble_eq_true rfl, Nat.le_of_ble_eq_true rfl⟩ (fun o_5 H locs eo_5 hP hD hS => ?_)
    refine lv_iconst (v := 1) hX hB dX9_wouldBeSaved_16 (by decide) ?_
    refine lv_icmp_ne (tgt := 24) hX hB dX9_wouldBeSaved_17 (by decide) (fun c_6 => ?_) (fun c_6 => ?_)
    · refine lv_iconst (v := 0) hX hB dX9_wouldBeSaved_24 (by decide) ?_
      exact z_zret' (0, o_5.2) (w' := q_X9_wouldBeSaved_ok cy h0 h1 h2 h3 h4 h5 h6 h7 h8 h9 v2 v3 v4 v5 v6 v7 v8 v9 v10 v11 g) (r0 := (fun (o : Int32 × Int32) => o.1)) (by simp only [n_X9_wouldBeSaved_ok, ← eo_1, if_neg c_2, ← eo_5, if_neg c_6]) C hRT (zb01 (Or.inl rfl)) hP hD hS (Nat.le_of_ble_eq_true rfl) (Nat.le_of_ble_eq_true rfl) rfl rfl dX9_wouldBeSaved_25
    · refine lv_iconst (v := 1) hX hB dX9_wouldBeSaved_20 (by decide) ?_
      refine lv_goto (tgt := 25) hX hB dX9_wouldBeSaved_21 (by decide) ?_
      exact z_zret' (1, o_5.2) (w' := q_X9_wouldBeSaved_ok cy h0 h1 h2 h3 h4 h5 h6 h7 h8 h9 v2 v3 v4 v5 v6 v7 v8 v9 v10 v11 g) (r0 := (fun (o : Int32 × Int32) => o.1)) (by simp only [n_X9_wouldBeSaved_ok, ← eo_1, if_neg c_2, ← eo_5, if_pos c_6]) C hRT (zb01 (Or.inr rfl)) hP hD hS (Nat.le_of_ble_eq_true rfl) (Nat.le_of_ble_eq_true rfl) rfl rfl dX9_wouldBeSaved_25

def n_X9_wouldBeSaved_1 (g : Nat → Int32) : Int32 :=
  let o_1 := n_X9_isSaver g
  if o_1 = 0 then
    let o_3 := n_X9_running_1
    o_3
  else
    let o_4 := n_X9_running_1
    o_4
def q_X9_wouldBeSaved_1 (cy : Nat → ClassId) (h0 : Nat) (h1 : Nat) (h2 : Nat) (h3 : Nat) (h4 : Nat) (h5 : Nat) (h6 : Nat) (h7 : Nat) (h8 : Nat) (h9 : Nat) (v2 : Int32) (v3 : Int32) (v4 : Int32) (v5 : Int32) (v6 : Int32) (v7 : Int32) (v8 : Int32) (v9 : Int32) (v10 : Int32) (v11 : Int32) (g : Nat → Int32) (o : Int32) : va_W := [(h0, .inr (11, [.ref h1, .ref h2, .ref h3, .ref h4, .ref h5, .int o, .int v2, .int v3, .int v4, .int v5, .ref h6, .int v6, .ref h7, .ref h8, .ref h9, .int v7, .int v8, .int v9, .int v10, .int v11])), (h1, .inl (cy 0, 64, .inl (g)))]
set_option maxHeartbeats 4000000 in
set_option maxRecDepth 100000 in
theorem c_X9_wouldBeSaved_1 (l : Launch) {E : zEn} (hE : zEok E) (D : zG) (cy : Nat → ClassId) (h0 h1 h2 h3 h4 h5 h6 h7 h8 h9 : Nat) (v1 : Int32) (v2 : Int32) (v3 : Int32) (v4 : Int32) (v5 : Int32) (v6 : Int32) (v7 : Int32) (v8 : Int32) (v9 : Int32) (v10 : Int32) (v11 : Int32) (g : Nat → Int32) (hr : ¬ g 0 = 1) (sz : Nat) : Met l yX9_wouldBeSaved (zws yX9_wouldBeSaved cX9_wouldBeSaved 1 (some .boolean)) { frames := 2, cells := 0, slots := 0, locals := 41 } (zPre E D cy [.ref h0] [(h0, .inr (11, [.ref h1, .ref h2, .ref h3, .ref h4, .ref h5, .int v1, .int v2, .int v3, .int v4, .int v5, .ref h6, .int v6, .ref h7, .ref h8, .ref h9, .int v7, .int v8, .int v9, .int v10, .int v11])), (h1, .inl (cy 0, 64, .inl (g)))] sz) (zQi D ((q_X9_wouldBeSaved_1 cy h0 h1 h2 h3 h4 h5 h6 h7 h8 h9 v2 v3 v4 v5 v6 v7 v8 v9 v10 v11 g) (n_X9_wouldBeSaved_1 g)) (va_A [(h0, .inr (11, [.ref h1, .ref h2, .ref h3, .ref h4, .ref h5, .int v1, .int v2, .int v3, .int v4, .int v5, .ref h6, .int v6, .ref h7, .ref h8, .ref h9, .int v7, .int v8, .int v9, .int v10, .int v11])), (h1, .inl (cy 0, 64, .inl (g)))] sz) (0)) 0 0 (va_A [(h0, .inr (11, [.ref h1, .ref h2, .ref h3, .ref h4, .ref h5, .int v1, .int v2, .int v3, .int v4, .int v5, .ref h6, .int v6, .ref h7, .ref h8, .ref h9, .int v7, .int v8, .int v9, .int v10, .int v11])), (h1, .inl (cy 0, 64, .inl (g)))] sz) := by
  refine z_of (Qc := fun A => zQi D ((q_X9_wouldBeSaved_1 cy h0 h1 h2 h3 h4 h5 h6 h7 h8 h9 v2 v3 v4 v5 v6 v7 v8 v9 v10 v11 g) (n_X9_wouldBeSaved_1 g)) A (0)) (by decide +kernel) (Nat.le_of_ble_eq_true rfl) rfl ?_
  intro pG eN sT mI below meth cO A ls C hRT hnm hA hP hD hS hE0 hl
  have hX := C.x
  have hB := C.b
  refine lv_aload_n hX hB dX9_wouldBeSaved_0 rfl (lv_at hl 0 rfl) ?_
  refine lv_aload_n hX hB dX9_wouldBeSaved_1 rfl (lv_at hl 0 rfl) ?_
  refine z_callVi (isC := [0, 1]) (isR := []) (isO := [0, 1]) (n_X9_isSaver g) (q_X9_isSaver cy h0 h1 h2 h3 h4 h5 h6 h7 h8 h9 v1 v2 v3 v4 v5 v6 v7 v8 v9 v10 v11 g) (fun o_1 => [(h0, .inr (11, [.ref h1, .ref h2, .ref h3, .ref h4, .ref h5, .int v1, .int v2, .int v3, .int v4, .int v5, .ref h6, .int v6, .ref h7, .ref h8, .ref h9, .int v7, .int v8, .int v9, .int v10, .int v11])), (h1, .inl (cy 0, 64, .inl (g)))]) (fun o_1 => o_1) (c_X9_isSaver l hE D cy h0 h1 h2 h3 h4 h5 h6 h7 h8 h9 v1 v2 v3 v4 v5 v6 v7 v8 v9 v10 v11 g ) hE C zs_X9_156 ⟨Nat.le_of_ble_eq_true rfl, Nat.le_of_ble_eq_true rfl⟩ hP hD hS hA hE0 ⟨rfl, rfl, rfl, by decide, rfl, rfl, rfl⟩ 0 rfl rfl rfl rfl hl.1 (Nat.le_of_ble_eq_true rfl) rfl dX9_wouldBeSaved_2 ⟨Nat.le_of_ble_eq_true rfl, Nat.le_of_ble_eq_true rfl⟩ (fun o_1 H locs eo_1 hP hD hS => ?_)
  refine lv_if_eq (tgt := 12) hX hB dX9_wouldBeSaved_5 (by decide) (fun c_2 => ?_) (fun c_2 => ?_)
  · refine lv_iconst (v := 0) hX hB dX9_wouldBeSaved_12 (by decide) ?_
    refine z_callVi (isC := [0, 1]) (isR := []) (isO := [0, 1]) (n_X9_running_1) (q_X9_running_1 cy h0 h1 h2 h3 h4 h5 h6 h7 h8 h9 v2 v3 v4 v5 v6 v7 v8 v9 v10 v11 g) (fun o_3 => [(h0, .inr (11, [.ref h1, .ref h2, .ref h3, .ref h4, .ref h5, .int o_3, .int v2, .int v3, .int v4, .int v5, .ref h6, .int v6, .ref h7, .ref h8, .ref h9, .int v7, .int v8, .int v9, .int v10, .int v11])), (h1, .inl (cy 0, 64, .inl (g)))]) (fun o_3 => 0) (c_X9_running_1 l hE D cy h0 h1 h2 h3 h4 h5 h6 h7 h8 h9 v1 v2 v3 v4 v5 v6 v7 v8 v9 v10 v11 g 0 hr) hE C zs_X9_168 ⟨Nat.le_of_ble_eq_true rfl, Nat.le_of_ble_eq_true rfl⟩ hP hD hS hA hE0 ⟨rfl, rfl, rfl, by decide, rfl, rfl, rfl⟩ 0 rfl rfl rfl rfl hl.1 (Nat.le_of_ble_eq_true rfl) rfl dX9_wouldBeSaved_13 ⟨Nat.le_of_ble_eq_true rfl, Nat.le_of_ble_eq_true rfl⟩ (fun o_3 H locs eo_3 hP hD hS => ?_)
    refine lv_iconst (v := 1) hX hB dX9_wouldBeSaved_16 (by decide) ?_
    refine lv_icmp_ne (tgt := 24) hX hB dX9_wouldBeSaved_17 (by decide) (fun _ => ?_) (fun c => absurd c (by decide))
    refine lv_iconst (v := 0) hX hB dX9_wouldBeSaved_24 (by decide) ?_
    exact z_zret' o_3 (w' := q_X9_wouldBeSaved_1 cy h0 h1 h2 h3 h4 h5 h6 h7 h8 h9 v2 v3 v4 v5 v6 v7 v8 v9 v10 v11 g) (r0 := (fun (o : Int32) => 0)) (by simp only [n_X9_wouldBeSaved_1, ← eo_1, if_pos c_2, ← eo_3]) C hRT (zb01 (Or.inl rfl)) hP hD hS (Nat.le_of_ble_eq_true rfl) (Nat.le_of_ble_eq_true rfl) rfl rfl dX9_wouldBeSaved_25
  · refine lv_iconst (v := 1) hX hB dX9_wouldBeSaved_8 (by decide) ?_
    refine lv_goto (tgt := 13) hX hB dX9_wouldBeSaved_9 (by decide) ?_
    refine z_callVi (isC := [0, 1]) (isR := []) (isO := [0, 1]) (n_X9_running_1) (q_X9_running_1 cy h0 h1 h2 h3 h4 h5 h6 h7 h8 h9 v2 v3 v4 v5 v6 v7 v8 v9 v10 v11 g) (fun o_4 => [(h0, .inr (11, [.ref h1, .ref h2, .ref h3, .ref h4, .ref h5, .int o_4, .int v2, .int v3, .int v4, .int v5, .ref h6, .int v6, .ref h7, .ref h8, .ref h9, .int v7, .int v8, .int v9, .int v10, .int v11])), (h1, .inl (cy 0, 64, .inl (g)))]) (fun o_4 => 0) (c_X9_running_1 l hE D cy h0 h1 h2 h3 h4 h5 h6 h7 h8 h9 v1 v2 v3 v4 v5 v6 v7 v8 v9 v10 v11 g 1 hr) hE C zs_X9_168 ⟨Nat.le_of_ble_eq_true rfl, Nat.le_of_ble_eq_true rfl⟩ hP hD hS hA hE0 ⟨rfl, rfl, rfl, by decide, rfl, rfl, rfl⟩ 0 rfl rfl rfl rfl hl.1 (Nat.le_of_ble_eq_true rfl) rfl dX9_wouldBeSaved_13 ⟨Nat.le_of_ble_eq_true rfl, Nat.le_of_ble_eq_true rfl⟩ (fun o_4 H locs eo_4 hP hD hS => ?_)
    refine lv_iconst (v := 1) hX hB dX9_wouldBeSaved_16 (by decide) ?_
    refine lv_icmp_ne (tgt := 24) hX hB dX9_wouldBeSaved_17 (by decide) (fun _ => ?_) (fun c => absurd c (by decide))
    refine lv_iconst (v := 0) hX hB dX9_wouldBeSaved_24 (by decide) ?_
    exact z_zret' o_4 (w' := q_X9_wouldBeSaved_1 cy h0 h1 h2 h3 h4 h5 h6 h7 h8 h9 v2 v3 v4 v5 v6 v7 v8 v9 v10 v11 g) (r0 := (fun (o : Int32) => 0)) (by simp only [n_X9_wouldBeSaved_1, ← eo_1, if_neg c_2, ← eo_4]) C hRT (zb01 (Or.inl rfl)) hP hD hS (Nat.le_of_ble_eq_true rfl) (Nat.le_of_ble_eq_true rfl) rfl rfl dX9_wouldBeSaved_25

def n_X9_laneRun_ok (g : Nat → Int32) : Int32 × Int32 :=
  let o_1 := n_X9_lanes g
  let o_2 := n_X9_running_ok o_1
  (o_2.1, o_2.2)
def q_X9_laneRun_ok (cy : Nat → ClassId) (h0 : Nat) (h1 : Nat) (h2 : Nat) (h3 : Nat) (h4 : Nat) (h5 : Nat) (h6 : Nat) (h7 : Nat) (h8 : Nat) (h9 : Nat) (v2 : Int32) (v3 : Int32) (v4 : Int32) (v5 : Int32) (v6 : Int32) (v7 : Int32) (v8 : Int32) (v9 : Int32) (v10 : Int32) (v11 : Int32) (g : Nat → Int32) (o : Int32 × Int32) : va_W := [(h0, .inr (11, [.ref h1, .ref h2, .ref h3, .ref h4, .ref h5, .int o.2, .int v2, .int v3, .int v4, .int v5, .ref h6, .int v6, .ref h7, .ref h8, .ref h9, .int v7, .int v8, .int v9, .int v10, .int v11])), (h1, .inl (cy 0, 64, .inl (g)))]
set_option maxHeartbeats 4000000 in
set_option maxRecDepth 100000 in
theorem c_X9_laneRun_ok (l : Launch) {E : zEn} (hE : zEok E) (D : zG) (cy : Nat → ClassId) (h0 h1 h2 h3 h4 h5 h6 h7 h8 h9 : Nat) (v1 : Int32) (v2 : Int32) (v3 : Int32) (v4 : Int32) (v5 : Int32) (v6 : Int32) (v7 : Int32) (v8 : Int32) (v9 : Int32) (v10 : Int32) (v11 : Int32) (g : Nat → Int32) (hr : g 0 = 1) (sz : Nat) : Met l yX9_laneRun (zws yX9_laneRun cX9_laneRun 1 (some .int)) { frames := 2, cells := 0, slots := 0, locals := 42 } (zPre E D cy [.ref h0] [(h0, .inr (11, [.ref h1, .ref h2, .ref h3, .ref h4, .ref h5, .int v1, .int v2, .int v3, .int v4, .int v5, .ref h6, .int v6, .ref h7, .ref h8, .ref h9, .int v7, .int v8, .int v9, .int v10, .int v11])), (h1, .inl (cy 0, 64, .inl (g)))] sz) (zQi D ((q_X9_laneRun_ok cy h0 h1 h2 h3 h4 h5 h6 h7 h8 h9 v2 v3 v4 v5 v6 v7 v8 v9 v10 v11 g) (n_X9_laneRun_ok g)) (va_A [(h0, .inr (11, [.ref h1, .ref h2, .ref h3, .ref h4, .ref h5, .int v1, .int v2, .int v3, .int v4, .int v5, .ref h6, .int v6, .ref h7, .ref h8, .ref h9, .int v7, .int v8, .int v9, .int v10, .int v11])), (h1, .inl (cy 0, 64, .inl (g)))] sz) ((n_X9_laneRun_ok g).1)) 0 0 (va_A [(h0, .inr (11, [.ref h1, .ref h2, .ref h3, .ref h4, .ref h5, .int v1, .int v2, .int v3, .int v4, .int v5, .ref h6, .int v6, .ref h7, .ref h8, .ref h9, .int v7, .int v8, .int v9, .int v10, .int v11])), (h1, .inl (cy 0, 64, .inl (g)))] sz) := by
  refine z_of (Qc := fun A => zQi D ((q_X9_laneRun_ok cy h0 h1 h2 h3 h4 h5 h6 h7 h8 h9 v2 v3 v4 v5 v6 v7 v8 v9 v10 v11 g) (n_X9_laneRun_ok g)) A ((n_X9_laneRun_ok g).1)) (by decide +kernel) (Nat.le_of_ble_eq_true rfl) rfl ?_
  intro pG eN sT mI below meth cO A ls C hRT hnm hA hP hD hS hE0 hl
  have hX := C.x
  have hB := C.b
  refine lv_aload_n hX hB dX9_laneRun_0 rfl (lv_at hl 0 rfl) ?_
  refine lv_aload_n hX hB dX9_laneRun_1 rfl (lv_at hl 0 rfl) ?_
  refine z_callVi (isC := [0, 1]) (isR := []) (isO := [0, 1]) (n_X9_lanes g) (q_X9_lanes cy h0 h1 h2 h3 h4 h5 h6 h7 h8 h9 v1 v2 v3 v4 v5 v6 v7 v8 v9 v10 v11 g) (fun o_1 => [(h0, .inr (11, [.ref h1, .ref h2, .ref h3, .ref h4, .ref h5, .int v1, .int v2, .int v3, .int v4, .int v5, .ref h6, .int v6, .ref h7, .ref h8, .ref h9, .int v7, .int v8, .int v9, .int v10, .int v11])), (h1, .inl (cy 0, 64, .inl (g)))]) (fun o_1 => o_1) (c_X9_lanes l hE D cy h0 h1 h2 h3 h4 h5 h6 h7 h8 h9 v1 v2 v3 v4 v5 v6 v7 v8 v9 v10 v11 g ) hE C zs_X9_181 ⟨Nat.le_of_ble_eq_true rfl, Nat.le_of_ble_eq_true rfl⟩ hP hD hS hA hE0 ⟨rfl, rfl, rfl, by decide, rfl, rfl, rfl⟩ 0 rfl rfl rfl rfl hl.1 (Nat.le_of_ble_eq_true rfl) rfl dX9_laneRun_2 ⟨Nat.le_of_ble_eq_true rfl, Nat.le_of_ble_eq_true rfl⟩ (fun o_1 H locs eo_1 hP hD hS => ?_)
  refine z_callVi (isC := [0, 1]) (isR := []) (isO := [0, 1]) (n_X9_running_ok o_1) (q_X9_running_ok cy h0 h1 h2 h3 h4 h5 h6 h7 h8 h9 v2 v3 v4 v5 v6 v7 v8 v9 v10 v11 g) (fun o_2 => [(h0, .inr (11, [.ref h1, .ref h2, .ref h3, .ref h4, .ref h5, .int o_2.2, .int v2, .int v3, .int v4, .int v5, .ref h6, .int v6, .ref h7, .ref h8, .ref h9, .int v7, .int v8, .int v9, .int v10, .int v11])), (h1, .inl (cy 0, 64, .inl (g)))]) (fun o_2 => o_2.1) (c_X9_running_ok l hE D cy h0 h1 h2 h3 h4 h5 h6 h7 h8 h9 v1 v2 v3 v4 v5 v6 v7 v8 v9 v10 v11 g o_1 hr) hE C zs_X9_168 ⟨Nat.le_of_ble_eq_true rfl, Nat.le_of_ble_eq_true rfl⟩ hP hD hS hA hE0 ⟨rfl, rfl, rfl, by decide, rfl, rfl, rfl⟩ 0 rfl rfl rfl rfl hl.1 (Nat.le_of_ble_eq_true rfl) rfl dX9_laneRun_5 ⟨Nat.le_of_ble_eq_true rfl, Nat.le_of_ble_eq_true rfl⟩ (fun o_2 H locs eo_2 hP hD hS => ?_)
  exact z_iret' (o_2.1, o_2.2) (w' := q_X9_laneRun_ok cy h0 h1 h2 h3 h4 h5 h6 h7 h8 h9 v2 v3 v4 v5 v6 v7 v8 v9 v10 v11 g) (r0 := (fun (o : Int32 × Int32) => o.1)) (by simp only [n_X9_laneRun_ok, ← eo_1, ← eo_2]) C hRT hP hD hS (Nat.le_of_ble_eq_true rfl) (Nat.le_of_ble_eq_true rfl) rfl rfl dX9_laneRun_8

def n_X9_laneRun_1 (g : Nat → Int32) : Int32 :=
  let o_1 := n_X9_lanes g
  let o_2 := n_X9_running_1
  o_2
def q_X9_laneRun_1 (cy : Nat → ClassId) (h0 : Nat) (h1 : Nat) (h2 : Nat) (h3 : Nat) (h4 : Nat) (h5 : Nat) (h6 : Nat) (h7 : Nat) (h8 : Nat) (h9 : Nat) (v2 : Int32) (v3 : Int32) (v4 : Int32) (v5 : Int32) (v6 : Int32) (v7 : Int32) (v8 : Int32) (v9 : Int32) (v10 : Int32) (v11 : Int32) (g : Nat → Int32) (o : Int32) : va_W := [(h0, .inr (11, [.ref h1, .ref h2, .ref h3, .ref h4, .ref h5, .int o, .int v2, .int v3, .int v4, .int v5, .ref h6, .int v6, .ref h7, .ref h8, .ref h9, .int v7, .int v8, .int v9, .int v10, .int v11])), (h1, .inl (cy 0, 64, .inl (g)))]
set_option maxHeartbeats 4000000 in
set_option maxRecDepth 100000 in
theorem c_X9_laneRun_1 (l : Launch) {E : zEn} (hE : zEok E) (D : zG) (cy : Nat → ClassId) (h0 h1 h2 h3 h4 h5 h6 h7 h8 h9 : Nat) (v1 : Int32) (v2 : Int32) (v3 : Int32) (v4 : Int32) (v5 : Int32) (v6 : Int32) (v7 : Int32) (v8 : Int32) (v9 : Int32) (v10 : Int32) (v11 : Int32) (g : Nat → Int32) (hr : ¬ g 0 = 1) (sz : Nat) : Met l yX9_laneRun (zws yX9_laneRun cX9_laneRun 1 (some .int)) { frames := 2, cells := 0, slots := 0, locals := 42 } (zPre E D cy [.ref h0] [(h0, .inr (11, [.ref h1, .ref h2, .ref h3, .ref h4, .ref h5, .int v1, .int v2, .int v3, .int v4, .int v5, .ref h6, .int v6, .ref h7, .ref h8, .ref h9, .int v7, .int v8, .int v9, .int v10, .int v11])), (h1, .inl (cy 0, 64, .inl (g)))] sz) (zQi D ((q_X9_laneRun_1 cy h0 h1 h2 h3 h4 h5 h6 h7 h8 h9 v2 v3 v4 v5 v6 v7 v8 v9 v10 v11 g) (n_X9_laneRun_1 g)) (va_A [(h0, .inr (11, [.ref h1, .ref h2, .ref h3, .ref h4, .ref h5, .int v1, .int v2, .int v3, .int v4, .int v5, .ref h6, .int v6, .ref h7, .ref h8, .ref h9, .int v7, .int v8, .int v9, .int v10, .int v11])), (h1, .inl (cy 0, 64, .inl (g)))] sz) (0)) 0 0 (va_A [(h0, .inr (11, [.ref h1, .ref h2, .ref h3, .ref h4, .ref h5, .int v1, .int v2, .int v3, .int v4, .int v5, .ref h6, .int v6, .ref h7, .ref h8, .ref h9, .int v7, .int v8, .int v9, .int v10, .int v11])), (h1, .inl (cy 0, 64, .inl (g)))] sz) := by
  refine z_of (Qc := fun A => zQi D ((q_X9_laneRun_1 cy h0 h1 h2 h3 h4 h5 h6 h7 h8 h9 v2 v3 v4 v5 v6 v7 v8 v9 v10 v11 g) (n_X9_laneRun_1 g)) A (0)) (by decide +kernel) (Nat.le_of_ble_eq_true rfl) rfl ?_
  intro pG eN sT mI below meth cO A ls C hRT hnm hA hP hD hS hE0 hl
  have hX := C.x
  have hB := C.b
  refine lv_aload_n hX hB dX9_laneRun_0 rfl (lv_at hl 0 rfl) ?_
  refine lv_aload_n hX hB dX9_laneRun_1 rfl (lv_at hl 0 rfl) ?_
  refine z_callVi (isC := [0, 1]) (isR := []) (isO := [0, 1]) (n_X9_lanes g) (q_X9_lanes cy h0 h1 h2 h3 h4 h5 h6 h7 h8 h9 v1 v2 v3 v4 v5 v6 v7 v8 v9 v10 v11 g) (fun o_1 => [(h0, .inr (11, [.ref h1, .ref h2, .ref h3, .ref h4, .ref h5, .int v1, .int v2, .int v3, .int v4, .int v5, .ref h6, .int v6, .ref h7, .ref h8, .ref h9, .int v7, .int v8, .int v9, .int v10, .int v11])), (h1, .inl (cy 0, 64, .inl (g)))]) (fun o_1 => o_1) (c_X9_lanes l hE D cy h0 h1 h2 h3 h4 h5 h6 h7 h8 h9 v1 v2 v3 v4 v5 v6 v7 v8 v9 v10 v11 g ) hE C zs_X9_181 ⟨Nat.le_of_ble_eq_true rfl, Nat.le_of_ble_eq_true rfl⟩ hP hD hS hA hE0 ⟨rfl, rfl, rfl, by decide, rfl, rfl, rfl⟩ 0 rfl rfl rfl rfl hl.1 (Nat.le_of_ble_eq_true rfl) rfl dX9_laneRun_2 ⟨Nat.le_of_ble_eq_true rfl, Nat.le_of_ble_eq_true rfl⟩ (fun o_1 H locs eo_1 hP hD hS => ?_)
  refine z_callVi (isC := [0, 1]) (isR := []) (isO := [0, 1]) (n_X9_running_1) (q_X9_running_1 cy h0 h1 h2 h3 h4 h5 h6 h7 h8 h9 v2 v3 v4 v5 v6 v7 v8 v9 v10 v11 g) (fun o_2 => [(h0, .inr (11, [.ref h1, .ref h2, .ref h3, .ref h4, .ref h5, .int o_2, .int v2, .int v3, .int v4, .int v5, .ref h6, .int v6, .ref h7, .ref h8, .ref h9, .int v7, .int v8, .int v9, .int v10, .int v11])), (h1, .inl (cy 0, 64, .inl (g)))]) (fun o_2 => 0) (c_X9_running_1 l hE D cy h0 h1 h2 h3 h4 h5 h6 h7 h8 h9 v1 v2 v3 v4 v5 v6 v7 v8 v9 v10 v11 g o_1 hr) hE C zs_X9_168 ⟨Nat.le_of_ble_eq_true rfl, Nat.le_of_ble_eq_true rfl⟩ hP hD hS hA hE0 ⟨rfl, rfl, rfl, by decide, rfl, rfl, rfl⟩ 0 rfl rfl rfl rfl hl.1 (Nat.le_of_ble_eq_true rfl) rfl dX9_laneRun_5 ⟨Nat.le_of_ble_eq_true rfl, Nat.le_of_ble_eq_true rfl⟩ (fun o_2 H locs eo_2 hP hD hS => ?_)
  exact z_iret' o_2 (w' := q_X9_laneRun_1 cy h0 h1 h2 h3 h4 h5 h6 h7 h8 h9 v2 v3 v4 v5 v6 v7 v8 v9 v10 v11 g) (r0 := (fun (o : Int32) => 0)) (by simp only [n_X9_laneRun_1, ← eo_1, ← eo_2]) C hRT hP hD hS (Nat.le_of_ble_eq_true rfl) (Nat.le_of_ble_eq_true rfl) rfl rfl dX9_laneRun_8

def n_X9_laneRunByCounting_ok (g : Nat → Int32) : Int32 × Int32 :=
  let o_1 := n_X9_lanes g
  let o_2 := n_X9_running_ok o_1
  (o_2.1, o_2.2)
def q_X9_laneRunByCounting_ok (cy : Nat → ClassId) (h0 : Nat) (h1 : Nat) (h2 : Nat) (h3 : Nat) (h4 : Nat) (h5 : Nat) (h6 : Nat) (h7 : Nat) (h8 : Nat) (h9 : Nat) (v2 : Int32) (v3 : Int32) (v4 : Int32) (v5 : Int32) (v6 : Int32) (v7 : Int32) (v8 : Int32) (v9 : Int32) (v10 : Int32) (v11 : Int32) (g : Nat → Int32) (o : Int32 × Int32) : va_W := [(h0, .inr (11, [.ref h1, .ref h2, .ref h3, .ref h4, .ref h5, .int o.2, .int v2, .int v3, .int v4, .int v5, .ref h6, .int v6, .ref h7, .ref h8, .ref h9, .int v7, .int v8, .int v9, .int v10, .int v11])), (h1, .inl (cy 0, 64, .inl (g)))]
set_option maxHeartbeats 4000000 in
set_option maxRecDepth 100000 in
theorem c_X9_laneRunByCounting_ok (l : Launch) {E : zEn} (hE : zEok E) (D : zG) (cy : Nat → ClassId) (h0 h1 h2 h3 h4 h5 h6 h7 h8 h9 : Nat) (v1 : Int32) (v2 : Int32) (v3 : Int32) (v4 : Int32) (v5 : Int32) (v6 : Int32) (v7 : Int32) (v8 : Int32) (v9 : Int32) (v10 : Int32) (v11 : Int32) (g : Nat → Int32) (hr : g 0 = 1) (sz : Nat) : Met l yX9_laneRunByCounting (zws yX9_laneRunByCounting cX9_laneRunByCounting 1 (some .int)) { frames := 2, cells := 0, slots := 0, locals := 42 } (zPre E D cy [.ref h0] [(h0, .inr (11, [.ref h1, .ref h2, .ref h3, .ref h4, .ref h5, .int v1, .int v2, .int v3, .int v4, .int v5, .ref h6, .int v6, .ref h7, .ref h8, .ref h9, .int v7, .int v8, .int v9, .int v10, .int v11])), (h1, .inl (cy 0, 64, .inl (g)))] sz) (zQi D ((q_X9_laneRunByCounting_ok cy h0 h1 h2 h3 h4 h5 h6 h7 h8 h9 v2 v3 v4 v5 v6 v7 v8 v9 v10 v11 g) (n_X9_laneRunByCounting_ok g)) (va_A [(h0, .inr (11, [.ref h1, .ref h2, .ref h3, .ref h4, .ref h5, .int v1, .int v2, .int v3, .int v4, .int v5, .ref h6, .int v6, .ref h7, .ref h8, .ref h9, .int v7, .int v8, .int v9, .int v10, .int v11])), (h1, .inl (cy 0, 64, .inl (g)))] sz) ((n_X9_laneRunByCounting_ok g).1)) 0 0 (va_A [(h0, .inr (11, [.ref h1, .ref h2, .ref h3, .ref h4, .ref h5, .int v1, .int v2, .int v3, .int v4, .int v5, .ref h6, .int v6, .ref h7, .ref h8, .ref h9, .int v7, .int v8, .int v9, .int v10, .int v11])), (h1, .inl (cy 0, 64, .inl (g)))] sz) := by
  refine z_of (Qc := fun A => zQi D ((q_X9_laneRunByCounting_ok cy h0 h1 h2 h3 h4 h5 h6 h7 h8 h9 v2 v3 v4 v5 v6 v7 v8 v9 v10 v11 g) (n_X9_laneRunByCounting_ok g)) A ((n_X9_laneRunByCounting_ok g).1)) (by decide +kernel) (Nat.le_of_ble_eq_true rfl) rfl ?_
  intro pG eN sT mI below meth cO A ls C hRT hnm hA hP hD hS hE0 hl
  have hX := C.x
  have hB := C.b
  refine lv_aload_n hX hB dX9_laneRunByCounting_0 rfl (lv_at hl 0 rfl) ?_
  refine lv_aload_n hX hB dX9_laneRunByCounting_1 rfl (lv_at hl 0 rfl) ?_
  refine z_callVi (isC := [0, 1]) (isR := []) (isO := [0, 1]) (n_X9_lanes g) (q_X9_lanes cy h0 h1 h2 h3 h4 h5 h6 h7 h8 h9 v1 v2 v3 v4 v5 v6 v7 v8 v9 v10 v11 g) (fun o_1 => [(h0, .inr (11, [.ref h1, .ref h2, .ref h3, .ref h4, .ref h5, .int v1, .int v2, .int v3, .int v4, .int v5, .ref h6, .int v6, .ref h7, .ref h8, .ref h9, .int v7, .int v8, .int v9, .int v10, .int v11])), (h1, .inl (cy 0, 64, .inl (g)))]) (fun o_1 => o_1) (c_X9_lanes l hE D cy h0 h1 h2 h3 h4 h5 h6 h7 h8 h9 v1 v2 v3 v4 v5 v6 v7 v8 v9 v10 v11 g ) hE C zs_X9_181 ⟨Nat.le_of_ble_eq_true rfl, Nat.le_of_ble_eq_true rfl⟩ hP hD hS hA hE0 ⟨rfl, rfl, rfl, by decide, rfl, rfl, rfl⟩ 0 rfl rfl rfl rfl hl.1 (Nat.le_of_ble_eq_true rfl) rfl dX9_laneRunByCounting_2 ⟨Nat.le_of_ble_eq_true rfl, Nat.le_of_ble_eq_true rfl⟩ (fun o_1 H locs eo_1 hP hD hS => ?_)
  refine z_callVi (isC := [0, 1]) (isR := []) (isO := [0, 1]) (n_X9_running_ok o_1) (q_X9_running_ok cy h0 h1 h2 h3 h4 h5 h6 h7 h8 h9 v2 v3 v4 v5 v6 v7 v8 v9 v10 v11 g) (fun o_2 => [(h0, .inr (11, [.ref h1, .ref h2, .ref h3, .ref h4, .ref h5, .int o_2.2, .int v2, .int v3, .int v4, .int v5, .ref h6, .int v6, .ref h7, .ref h8, .ref h9, .int v7, .int v8, .int v9, .int v10, .int v11])), (h1, .inl (cy 0, 64, .inl (g)))]) (fun o_2 => o_2.1) (c_X9_running_ok l hE D cy h0 h1 h2 h3 h4 h5 h6 h7 h8 h9 v1 v2 v3 v4 v5 v6 v7 v8 v9 v10 v11 g o_1 hr) hE C zs_X9_168 ⟨Nat.le_of_ble_eq_true rfl, Nat.le_of_ble_eq_true rfl⟩ hP hD hS hA hE0 ⟨rfl, rfl, rfl, by decide, rfl, rfl, rfl⟩ 0 rfl rfl rfl rfl hl.1 (Nat.le_of_ble_eq_true rfl) rfl dX9_laneRunByCounting_5 ⟨Nat.le_of_ble_eq_true rfl, Nat.le_of_ble_eq_true rfl⟩ (fun o_2 H locs eo_2 hP hD hS => ?_)
  exact z_iret' (o_2.1, o_2.2) (w' := q_X9_laneRunByCounting_ok cy h0 h1 h2 h3 h4 h5 h6 h7 h8 h9 v2 v3 v4 v5 v6 v7 v8 v9 v10 v11 g) (r0 := (fun (o : Int32 × Int32) => o.1)) (by simp only [n_X9_laneRunByCounting_ok, ← eo_1, ← eo_2]) C hRT hP hD hS (Nat.le_of_ble_eq_true rfl) (Nat.le_of_ble_eq_true rfl) rfl rfl dX9_laneRunByCounting_8

def n_X9_laneRunByCounting_1 (g : Nat → Int32) : Int32 :=
  let o_1 := n_X9_lanes g
  let o_2 := n_X9_running_1
  o_2
def q_X9_laneRunByCounting_1 (cy : Nat → ClassId) (h0 : Nat) (h1 : Nat) (h2 : Nat) (h3 : Nat) (h4 : Nat) (h5 : Nat) (h6 : Nat) (h7 : Nat) (h8 : Nat) (h9 : Nat) (v2 : Int32) (v3 : Int32) (v4 : Int32) (v5 : Int32) (v6 : Int32) (v7 : Int32) (v8 : Int32) (v9 : Int32) (v10 : Int32) (v11 : Int32) (g : Nat → Int32) (o : Int32) : va_W := [(h0, .inr (11, [.ref h1, .ref h2, .ref h3, .ref h4, .ref h5, .int o, .int v2, .int v3, .int v4, .int v5, .ref h6, .int v6, .ref h7, .ref h8, .ref h9, .int v7, .int v8, .int v9, .int v10, .int v11])), (h1, .inl (cy 0, 64, .inl (g)))]
set_option maxHeartbeats 4000000 in
set_option maxRecDepth 100000 in
theorem c_X9_laneRunByCounting_1 (l : Launch) {E : zEn} (hE : zEok E) (D : zG) (cy : Nat → ClassId) (h0 h1 h2 h3 h4 h5 h6 h7 h8 h9 : Nat) (v1 : Int32) (v2 : Int32) (v3 : Int32) (v4 : Int32) (v5 : Int32) (v6 : Int32) (v7 : Int32) (v8 : Int32) (v9 : Int32) (v10 : Int32) (v11 : Int32) (g : Nat → Int32) (hr : ¬ g 0 = 1) (sz : Nat) : Met l yX9_laneRunByCounting (zws yX9_laneRunByCounting cX9_laneRunByCounting 1 (some .int)) { frames := 2, cells := 0, slots := 0, locals := 42 } (zPre E D cy [.ref h0] [(h0, .inr (11, [.ref h1, .ref h2, .ref h3, .ref h4, .ref h5, .int v1, .int v2, .int v3, .int v4, .int v5, .ref h6, .int v6, .ref h7, .ref h8, .ref h9, .int v7, .int v8, .int v9, .int v10, .int v11])), (h1, .inl (cy 0, 64, .inl (g)))] sz) (zQi D ((q_X9_laneRunByCounting_1 cy h0 h1 h2 h3 h4 h5 h6 h7 h8 h9 v2 v3 v4 v5 v6 v7 v8 v9 v10 v11 g) (n_X9_laneRunByCounting_1 g)) (va_A [(h0, .inr (11, [.ref h1, .ref h2, .ref h3, .ref h4, .ref h5, .int v1, .int v2, .int v3, .int v4, .int v5, .ref h6, .int v6, .ref h7, .ref h8, .ref h9, .int v7, .int v8, .int v9, .int v10, .int v11])), (h1, .inl (cy 0, 64, .inl (g)))] sz) (0)) 0 0 (va_A [(h0, .inr (11, [.ref h1, .ref h2, .ref h3, .ref h4, .ref h5, .int v1, .int v2, .int v3, .int v4, .int v5, .ref h6, .int v6, .ref h7, .ref h8, .ref h9, .int v7, .int v8, .int v9, .int v10, .int v11])), (h1, .inl (cy 0, 64, .inl (g)))] sz) := by
  refine z_of (Qc := fun A => zQi D ((q_X9_laneRunByCounting_1 cy h0 h1 h2 h3 h4 h5 h6 h7 h8 h9 v2 v3 v4 v5 v6 v7 v8 v9 v10 v11 g) (n_X9_laneRunByCounting_1 g)) A (0)) (by decide +kernel) (Nat.le_of_ble_eq_true rfl) rfl ?_
  intro pG eN sT mI below meth cO A ls C hRT hnm hA hP hD hS hE0 hl
  have hX := C.x
  have hB := C.b
  refine lv_aload_n hX hB dX9_laneRunByCounting_0 rfl (lv_at hl 0 rfl) ?_
  refine lv_aload_n hX hB dX9_laneRunByCounting_1 rfl (lv_at hl 0 rfl) ?_
  refine z_callVi (isC := [0, 1]) (isR := []) (isO := [0, 1]) (n_X9_lanes g) (q_X9_lanes cy h0 h1 h2 h3 h4 h5 h6 h7 h8 h9 v1 v2 v3 v4 v5 v6 v7 v8 v9 v10 v11 g) (fun o_1 => [(h0, .inr (11, [.ref h1, .ref h2, .ref h3, .ref h4, .ref h5, .int v1, .int v2, .int v3, .int v4, .int v5, .ref h6, .int v6, .ref h7, .ref h8, .ref h9, .int v7, .int v8, .int v9, .int v10, .int v11])), (h1, .inl (cy 0, 64, .inl (g)))]) (fun o_1 => o_1) (c_X9_lanes l hE D cy h0 h1 h2 h3 h4 h5 h6 h7 h8 h9 v1 v2 v3 v4 v5 v6 v7 v8 v9 v10 v11 g ) hE C zs_X9_181 ⟨Nat.le_of_ble_eq_true rfl, Nat.le_of_ble_eq_true rfl⟩ hP hD hS hA hE0 ⟨rfl, rfl, rfl, by decide, rfl, rfl, rfl⟩ 0 rfl rfl rfl rfl hl.1 (Nat.le_of_ble_eq_true rfl) rfl dX9_laneRunByCounting_2 ⟨Nat.le_of_ble_eq_true rfl, Nat.le_of_ble_eq_true rfl⟩ (fun o_1 H locs eo_1 hP hD hS => ?_)
  refine z_callVi (isC := [0, 1]) (isR := []) (isO := [0, 1]) (n_X9_running_1) (q_X9_running_1 cy h0 h1 h2 h3 h4 h5 h6 h7 h8 h9 v2 v3 v4 v5 v6 v7 v8 v9 v10 v11 g) (fun o_2 => [(h0, .inr (11, [.ref h1, .ref h2, .ref h3, .ref h4, .ref h5, .int o_2, .int v2, .int v3, .int v4, .int v5, .ref h6, .int v6, .ref h7, .ref h8, .ref h9, .int v7, .int v8, .int v9, .int v10, .int v11])), (h1, .inl (cy 0, 64, .inl (g)))]) (fun o_2 => 0) (c_X9_running_1 l hE D cy h0 h1 h2 h3 h4 h5 h6 h7 h8 h9 v1 v2 v3 v4 v5 v6 v7 v8 v9 v10 v11 g o_1 hr) hE C zs_X9_168 ⟨Nat.le_of_ble_eq_true rfl, Nat.le_of_ble_eq_true rfl⟩ hP hD hS hA hE0 ⟨rfl, rfl, rfl, by decide, rfl, rfl, rfl⟩ 0 rfl rfl rfl rfl hl.1 (Nat.le_of_ble_eq_true rfl) rfl dX9_laneRunByCounting_5 ⟨Nat.le_of_ble_eq_true rfl, Nat.le_of_ble_eq_true rfl⟩ (fun o_2 H locs eo_2 hP hD hS => ?_)
  exact z_iret' o_2 (w' := q_X9_laneRunByCounting_1 cy h0 h1 h2 h3 h4 h5 h6 h7 h8 h9 v2 v3 v4 v5 v6 v7 v8 v9 v10 v11 g) (r0 := (fun (o : Int32) => 0)) (by simp only [n_X9_laneRunByCounting_1, ← eo_1, ← eo_2]) C hRT hP hD hS (Nat.le_of_ble_eq_true rfl) (Nat.le_of_ble_eq_true rfl) rfl rfl dX9_laneRunByCounting_8

def n_X9_bonusIfDrained_ok (g : Nat → Int32) : Int32 × Int32 :=
  let o_1 := n_X9_isTilt g
  if o_1 = 0 then
    let o_4 := n_X9_isSaver g
    if o_4 = 0 then
      let o_6 := n_X9_running_ok ((100 * (g 7)) * (g 5))
      (o_6.1, o_6.2)
    else
      let o_7 := n_X9_running_ok 0
      (o_7.1, o_7.2)
  else
    let o_3 := n_X9_running_ok 0
    (o_3.1, o_3.2)
def q_X9_bonusIfDrained_ok (cy : Nat → ClassId) (h0 : Nat) (h1 : Nat) (h2 : Nat) (h3 : Nat) (h4 : Nat) (h5 : Nat) (h6 : Nat) (h7 : Nat) (h8 : Nat) (h9 : Nat) (v2 : Int32) (v3 : Int32) (v4 : Int32) (v5 : Int32) (v6 : Int32) (v7 : Int32) (v8 : Int32) (v9 : Int32) (v10 : Int32) (v11 : Int32) (g : Nat → Int32) (o : Int32 × Int32) : va_W := [(h0, .inr (11, [.ref h1, .ref h2, .ref h3, .ref h4, .ref h5, .int o.2, .int v2, .int v3, .int v4, .int v5, .ref h6, .int v6, .ref h7, .ref h8, .ref h9, .int v7, .int v8, .int v9, .int v10, .int v11])), (h1, .inl (cy 0, 64, .inl (g)))]
set_option maxHeartbeats 4000000 in
set_option maxRecDepth 100000 in
theorem c_X9_bonusIfDrained_ok (l : Launch) {E : zEn} (hE : zEok E) (D : zG) (cy : Nat → ClassId) (h0 h1 h2 h3 h4 h5 h6 h7 h8 h9 : Nat) (v1 : Int32) (v2 : Int32) (v3 : Int32) (v4 : Int32) (v5 : Int32) (v6 : Int32) (v7 : Int32) (v8 : Int32) (v9 : Int32) (v10 : Int32) (v11 : Int32) (g : Nat → Int32) (hr : g 0 = 1) (sz : Nat) : Met l yX9_bonusIfDrained (zws yX9_bonusIfDrained cX9_bonusIfDrained 1 (some .int)) { frames := 2, cells := 0, slots := 0, locals := 41 } (zPre E D cy [.ref h0] [(h0, .inr (11, [.ref h1, .ref h2, .ref h3, .ref h4, .ref h5, .int v1, .int v2, .int v3, .int v4, .int v5, .ref h6, .int v6, .ref h7, .ref h8, .ref h9, .int v7, .int v8, .int v9, .int v10, .int v11])), (h1, .inl (cy 0, 64, .inl (g)))] sz) (zQi D ((q_X9_bonusIfDrained_ok cy h0 h1 h2 h3 h4 h5 h6 h7 h8 h9 v2 v3 v4 v5 v6 v7 v8 v9 v10 v11 g) (n_X9_bonusIfDrained_ok g)) (va_A [(h0, .inr (11, [.ref h1, .ref h2, .ref h3, .ref h4, .ref h5, .int v1, .int v2, .int v3, .int v4, .int v5, .ref h6, .int v6, .ref h7, .ref h8, .ref h9, .int v7, .int v8, .int v9, .int v10, .int v11])), (h1, .inl (cy 0, 64, .inl (g)))] sz) ((n_X9_bonusIfDrained_ok g).1)) 0 0 (va_A [(h0, .inr (11, [.ref h1, .ref h2, .ref h3, .ref h4, .ref h5, .int v1, .int v2, .int v3, .int v4, .int v5, .ref h6, .int v6, .ref h7, .ref h8, .ref h9, .int v7, .int v8, .int v9, .int v10, .int v11])), (h1, .inl (cy 0, 64, .inl (g)))] sz) := by
  refine z_of (Qc := fun A => zQi D ((q_X9_bonusIfDrained_ok cy h0 h1 h2 h3 h4 h5 h6 h7 h8 h9 v2 v3 v4 v5 v6 v7 v8 v9 v10 v11 g) (n_X9_bonusIfDrained_ok g)) A ((n_X9_bonusIfDrained_ok g).1)) (by decide +kernel) (Nat.le_of_ble_eq_true rfl) rfl ?_
  intro pG eN sT mI below meth cO A ls C hRT hnm hA hP hD hS hE0 hl
  have hX := C.x
  have hB := C.b
  refine lv_aload_n hX hB dX9_bonusIfDrained_0 rfl (lv_at hl 0 rfl) ?_
  refine lv_aload_n hX hB dX9_bonusIfDrained_1 rfl (lv_at hl 0 rfl) ?_
  refine z_callVi (isC := [0, 1]) (isR := []) (isO := [0, 1]) (n_X9_isTilt g) (q_X9_isTilt cy h0 h1 h2 h3 h4 h5 h6 h7 h8 h9 v1 v2 v3 v4 v5 v6 v7 v8 v9 v10 v11 g) (fun o_1 => [(h0, .inr (11, [.ref h1, .ref h2, .ref h3, .ref h4, .ref h5, .int v1, .int v2, .int v3, .int v4, .int v5, .ref h6, .int v6, .ref h7, .ref h8, .ref h9, .int v7, .int v8, .int v9, .int v10, .int v11])), (h1, .inl (cy 0, 64, .inl (g)))]) (fun o_1 => o_1) (c_X9_isTilt l hE D cy h0 h1 h2 h3 h4 h5 h6 h7 h8 h9 v1 v2 v3 v4 v5 v6 v7 v8 v9 v10 v11 g ) hE C zs_X9_113 ⟨Nat.le_of_ble_eq_true rfl, Nat.le_of_ble_eq_true rfl⟩ hP hD hS hA hE0 ⟨rfl, rfl, rfl, by decide, rfl, rfl, rfl⟩ 0 rfl rfl rfl rfl hl.1 (Nat.le_of_ble_eq_true rfl) rfl dX9_bonusIfDrained_2 ⟨Nat.le_of_ble_eq_true rfl, Nat.le_of_ble_eq_true rfl⟩ (fun o_1 H locs eo_1 hP hD hS => ?_)
  refine lv_if_ne (tgt := 15) hX hB dX9_bonusIfDrained_5 (by decide) (fun c_2 => ?_) (fun c_2 => ?_)
  · refine lv_iconst (v := 0) hX hB dX9_bonusIfDrained_15 (by decide) ?_
    refine lv_goto (tgt := 36) hX hB dX9_bonusIfDrained_16 (by decide) ?_
    refine z_callVi (isC := [0, 1]) (isR := []) (isO := [0, 1]) (n_X9_running_ok 0) (q_X9_running_ok cy h0 h1 h2 h3 h4 h5 h6 h7 h8 h9 v2 v3 v4 v5 v6 v7 v8 v9 v10 v11 g) (fun o_3 => [(h0, .inr (11, [.ref h1, .ref h2, .ref h3, .ref h4, .ref h5, .int o_3.2, .int v2, .int v3, .int v4, .int v5, .ref h6, .int v6, .ref h7, .ref h8, .ref h9, .int v7, .int v8, .int v9, .int v10, .int v11])), (h1, .inl (cy 0, 64, .inl (g)))]) (fun o_3 => o_3.1) (c_X9_running_ok l hE D cy h0 h1 h2 h3 h4 h5 h6 h7 h8 h9 v1 v2 v3 v4 v5 v6 v7 v8 v9 v10 v11 g 0 hr) hE C zs_X9_168 ⟨Nat.le_of_ble_eq_true rfl, Nat.le_of_ble_eq_true rfl⟩ hP hD hS hA hE0 ⟨rfl, rfl, rfl, by decide, rfl, rfl, rfl⟩ 0 rfl rfl rfl rfl hl.1 (Nat.le_of_ble_eq_true rfl) rfl dX9_bonusIfDrained_36 ⟨Nat.le_of_ble_eq_true rfl, Nat.le_of_ble_eq_true rfl⟩ (fun o_3 H locs eo_3 hP hD hS => ?_)
    exact z_iret' (o_3.1, o_3.2) (w' := q_X9_bonusIfDrained_ok cy h0 h1 h2 h3 h4 h5 h6 h7 h8 h9 v2 v3 v4 v5 v6 v7 v8 v9 v10 v11 g) (r0 := (fun (o : Int32 × Int32) => o.1)) (by simp only [n_X9_bonusIfDrained_ok, ← eo_1, if_neg c_2, ← eo_3]) C hRT hP hD hS (Nat.le_of_ble_eq_true rfl) (Nat.le_of_ble_eq_true rfl) rfl rfl dX9_bonusIfDrained_39
  · refine lv_aload_n hX hB dX9_bonusIfDrained_8 rfl (lv_at hl 0 rfl) ?_
    refine z_callVi (isC := [0, 1]) (isR := []) (isO := [0, 1]) (n_X9_isSaver g) (q_X9_isSaver cy h0 h1 h2 h3 h4 h5 h6 h7 h8 h9 v1 v2 v3 v4 v5 v6 v7 v8 v9 v10 v11 g) (fun o_4 => [(h0, .inr (11, [.ref h1, .ref h2, .ref h3, .ref h4, .ref h5, .int v1, .int v2, .int v3, .int v4, .int v5, .ref h6, .int v6, .ref h7, .ref h8, .ref h9, .int v7, .int v8, .int v9, .int v10, .int v11])), (h1, .inl (cy 0, 64, .inl (g)))]) (fun o_4 => o_4) (c_X9_isSaver l hE D cy h0 h1 h2 h3 h4 h5 h6 h7 h8 h9 v1 v2 v3 v4 v5 v6 v7 v8 v9 v10 v11 g ) hE C zs_X9_156 ⟨Nat.le_of_ble_eq_true rfl, Nat.le_of_ble_eq_true rfl⟩ hP hD hS hA hE0 ⟨rfl, rfl, rfl, by decide, rfl, rfl, rfl⟩ 0 rfl rfl rfl rfl hl.1 (Nat.le_of_ble_eq_true rfl) rfl dX9_bonusIfDrained_9 ⟨Nat.le_of_ble_eq_true rfl, Nat.le_of_ble_eq_true rfl⟩ (fun o_4 H locs eo_4 hP hD hS => ?_)
    refine lv_if_eq (tgt := 19) hX hB dX9_bonusIfDrained_12 (by decide) (fun c_5 => ?_) (fun c_5 => ?_)
    · refine lv_bipush (v := 100) hX hB dX9_bonusIfDrained_19 (by decide) ?_
      refine lv_aload_n hX hB dX9_bonusIfDrained_21 rfl (lv_at hl 0 rfl) ?_
      refine fg_X9_7 C hP 0 rfl rfl dX9_bonusIfDrained_22 ?_
      refine lv_bipush (v := 7) hX hB dX9_bonusIfDrained_25 (by decide) ?_
      refine z_iald C hP 1 rfl (k := 7) (zlit 7) (by decide) (by decide) (v := g 7) rfl dX9_bonusIfDrained_27 ?_
      refine z_imul (v := 100 * (g 7)) C dX9_bonusIfDrained_28 rfl ?_
      refine lv_aload_n hX hB dX9_bonusIfDrained_29 rfl (lv_at hl 0 rfl) ?_
      refine fg_X9_7 C hP 0 rfl rfl dX9_bonusIfDrained_30 ?_
      refine lv_iconst (v := 5) hX hB dX9_bonusIfDrained_33 (by decide) ?_
      refine z_iald C hP 1 rfl (k := 5) (zlit 5) (by decide) (by decide) (v := g 5) rfl dX9_bonusIfDrained_34 ?_
      refine z_imul (v := (100 * (g 7)) * (g 5)) C dX9_bonusIfDrained_35 rfl ?_
      refine z_callVi (isC := [0, 1]) (isR := []) (isO := [0, 1]) (n_X9_running_ok ((100 * (g 7)) * (g 5))) (q_X9_running_ok cy h0 h1 h2 h3 h4 h5 h6 h7 h8 h9 v2 v3 v4 v5 v6 v7 v8 v9 v10 v11 g) (fun o_6 => [(h0, .inr (11, [.ref h1, .ref h2, .ref h3, .ref h4, .ref h5, .int o_6.2, .int v2, .int v3, .int v4, .int v5, .ref h6, .int v6, .ref h7, .ref h8, .ref h9, .int v7, .int v8, .int v9, .int v10, .int v11])), (h1, .inl (cy 0, 64, .inl (g)))]) (fun o_6 => o_6.1) (c_X9_running_ok l hE D cy h0 h1 h2 h3 h4 h5 h6 h7 h8 h9 v1 v2 v3 v4 v5 v6 v7 v8 v9 v10 v11 g ((100 * (g 7)) * (g 5)) hr) hE C zs_X9_168 ⟨Nat.le_of_ble_eq_true rfl, Nat.le_of_ble_eq_true rfl⟩ hP hD hS hA hE0 ⟨rfl, rfl, rfl, by decide, rfl, rfl, rfl⟩ 0 rfl rfl rfl rfl hl.1 (Nat.le_of_ble_eq_true rfl) rfl dX9_bonusIfDrained_36 ⟨Nat.le_of_ble_eq_true rfl, Nat.le_of_ble_eq_true rfl⟩ (fun o_6 H locs eo_6 hP hD hS => ?_)
      exact z_iret' (o_6.1, o_6.2) (w' := q_X9_bonusIfDrained_ok cy h0 h1 h2 h3 h4 h5 h6 h7 h8 h9 v2 v3 v4 v5 v6 v7 v8 v9 v10 v11 g) (r0 := (fun (o : Int32 × Int32) => o.1)) (by simp only [n_X9_bonusIfDrained_ok, ← eo_1, if_pos c_2, ← eo_4, if_pos c_5, ← eo_6]) C hRT hP hD hS (Nat.le_of_ble_eq_true rfl) (Nat.le_of_ble_eq_true rfl) rfl rfl dX9_bonusIfDrained_39
    · refine lv_iconst (v := 0) hX hB dX9_bonusIfDrained_15 (by decide) ?_
      refine lv_goto (tgt := 36) hX hB dX9_bonusIfDrained_16 (by decide) ?_
      refine z_callVi (isC := [0, 1]) (isR := []) (isO := [0, 1]) (n_X9_running_ok 0) (q_X9_running_ok cy h0 h1 h2 h3 h4 h5 h6 h7 h8 h9 v2 v3 v4 v5 v6 v7 v8 v9 v10 v11 g) (fun o_7 => [(h0, .inr (11, [.ref h1, .ref h2, .ref h3, .ref h4, .ref h5, .int o_7.2, .int v2, .int v3, .int v4, .int v5, .ref h6, .int v6, .ref h7, .ref h8, .ref h9, .int v7, .int v8, .int v9, .int v10, .int v11])), (h1, .inl (cy 0, 64, .inl (g)))]) (fun o_7 => o_7.1) (c_X9_running_ok l hE D cy h0 h1 h2 h3 h4 h5 h6 h7 h8 h9 v1 v2 v3 v4 v5 v6 v7 v8 v9 v10 v11 g 0 hr) hE C zs_X9_168 ⟨Nat.le_of_ble_eq_true rfl, Nat.le_of_ble_eq_true rfl⟩ hP hD hS hA hE0 ⟨rfl, rfl, rfl, by decide, rfl, rfl, rfl⟩ 0 rfl rfl rfl rfl hl.1 (Nat.le_of_ble_eq_true rfl) rfl dX9_bonusIfDrained_36 ⟨Nat.le_of_ble_eq_true rfl, Nat.le_of_ble_eq_true rfl⟩ (fun o_7 H locs eo_7 hP hD hS => ?_)
      exact z_iret' (o_7.1, o_7.2) (w' := q_X9_bonusIfDrained_ok cy h0 h1 h2 h3 h4 h5 h6 h7 h8 h9 v2 v3 v4 v5 v6 v7 v8 v9 v10 v11 g) (r0 := (fun (o : Int32 × Int32) => o.1)) (by simp only [n_X9_bonusIfDrained_ok, ← eo_1, if_pos c_2, ← eo_4, if_neg c_5, ← eo_7]) C hRT hP hD hS (Nat.le_of_ble_eq_true rfl) (Nat.le_of_ble_eq_true rfl) rfl rfl dX9_bonusIfDrained_39

def n_X9_bonusIfDrained_1 (g : Nat → Int32) : Int32 :=
  let o_1 := n_X9_isTilt g
  if o_1 = 0 then
    let o_4 := n_X9_isSaver g
    if o_4 = 0 then
      let o_6 := n_X9_running_1
      o_6
    else
      let o_7 := n_X9_running_1
      o_7
  else
    let o_3 := n_X9_running_1
    o_3
def q_X9_bonusIfDrained_1 (cy : Nat → ClassId) (h0 : Nat) (h1 : Nat) (h2 : Nat) (h3 : Nat) (h4 : Nat) (h5 : Nat) (h6 : Nat) (h7 : Nat) (h8 : Nat) (h9 : Nat) (v2 : Int32) (v3 : Int32) (v4 : Int32) (v5 : Int32) (v6 : Int32) (v7 : Int32) (v8 : Int32) (v9 : Int32) (v10 : Int32) (v11 : Int32) (g : Nat → Int32) (o : Int32) : va_W := [(h0, .inr (11, [.ref h1, .ref h2, .ref h3, .ref h4, .ref h5, .int o, .int v2, .int v3, .int v4, .int v5, .ref h6, .int v6, .ref h7, .ref h8, .ref h9, .int v7, .int v8, .int v9, .int v10, .int v11])), (h1, .inl (cy 0, 64, .inl (g)))]
set_option maxHeartbeats 4000000 in
set_option maxRecDepth 100000 in
theorem c_X9_bonusIfDrained_1 (l : Launch) {E : zEn} (hE : zEok E) (D : zG) (cy : Nat → ClassId) (h0 h1 h2 h3 h4 h5 h6 h7 h8 h9 : Nat) (v1 : Int32) (v2 : Int32) (v3 : Int32) (v4 : Int32) (v5 : Int32) (v6 : Int32) (v7 : Int32) (v8 : Int32) (v9 : Int32) (v10 : Int32) (v11 : Int32) (g : Nat → Int32) (hr : ¬ g 0 = 1) (sz : Nat) : Met l yX9_bonusIfDrained (zws yX9_bonusIfDrained cX9_bonusIfDrained 1 (some .int)) { frames := 2, cells := 0, slots := 0, locals := 41 } (zPre E D cy [.ref h0] [(h0, .inr (11, [.ref h1, .ref h2, .ref h3, .ref h4, .ref h5, .int v1, .int v2, .int v3, .int v4, .int v5, .ref h6, .int v6, .ref h7, .ref h8, .ref h9, .int v7, .int v8, .int v9, .int v10, .int v11])), (h1, .inl (cy 0, 64, .inl (g)))] sz) (zQi D ((q_X9_bonusIfDrained_1 cy h0 h1 h2 h3 h4 h5 h6 h7 h8 h9 v2 v3 v4 v5 v6 v7 v8 v9 v10 v11 g) (n_X9_bonusIfDrained_1 g)) (va_A [(h0, .inr (11, [.ref h1, .ref h2, .ref h3, .ref h4, .ref h5, .int v1, .int v2, .int v3, .int v4, .int v5, .ref h6, .int v6, .ref h7, .ref h8, .ref h9, .int v7, .int v8, .int v9, .int v10, .int v11])), (h1, .inl (cy 0, 64, .inl (g)))] sz) (0)) 0 0 (va_A [(h0, .inr (11, [.ref h1, .ref h2, .ref h3, .ref h4, .ref h5, .int v1, .int v2, .int v3, .int v4, .int v5, .ref h6, .int v6, .ref h7, .ref h8, .ref h9, .int v7, .int v8, .int v9, .int v10, .int v11])), (h1, .inl (cy 0, 64, .inl (g)))] sz) := by
  refine z_of (Qc := fun A => zQi D ((q_X9_bonusIfDrained_1 cy h0 h1 h2 h3 h4 h5 h6 h7 h8 h9 v2 v3 v4 v5 v6 v7 v8 v9 v10 v11 g) (n_X9_bonusIfDrained_1 g)) A (0)) (by decide +kernel) (Nat.le_of_ble_eq_true rfl) rfl ?_
  intro pG eN sT mI below meth cO A ls C hRT hnm hA hP hD hS hE0 hl
  have hX := C.x
  have hB := C.b
  refine lv_aload_n hX hB dX9_bonusIfDrained_0 rfl (lv_at hl 0 rfl) ?_
  refine lv_aload_n hX hB dX9_bonusIfDrained_1 rfl (lv_at hl 0 rfl) ?_
  refine z_callVi (isC := [0, 1]) (isR := []) (isO := [0, 1]) (n_X9_isTilt g) (q_X9_isTilt cy h0 h1 h2 h3 h4 h5 h6 h7 h8 h9 v1 v2 v3 v4 v5 v6 v7 v8 v9 v10 v11 g) (fun o_1 => [(h0, .inr (11, [.ref h1, .ref h2, .ref h3, .ref h4, .ref h5, .int v1, .int v2, .int v3, .int v4, .int v5, .ref h6, .int v6, .ref h7, .ref h8, .ref h9, .int v7, .int v8, .int v9, .int v10, .int v11])), (h1, .inl (cy 0, 64, .inl (g)))]) (fun o_1 => o_1) (c_X9_isTilt l hE D cy h0 h1 h2 h3 h4 h5 h6 h7 h8 h9 v1 v2 v3 v4 v5 v6 v7 v8 v9 v10 v11 g ) hE C zs_X9_113 ⟨Nat.le_of_ble_eq_true rfl, Nat.le_of_ble_eq_true rfl⟩ hP hD hS hA hE0 ⟨rfl, rfl, rfl, by decide, rfl, rfl, rfl⟩ 0 rfl rfl rfl rfl hl.1 (Nat.le_of_ble_eq_true rfl) rfl dX9_bonusIfDrained_2 ⟨Nat.le_of_ble_eq_true rfl, Nat.le_of_ble_eq_true rfl⟩ (fun o_1 H locs eo_1 hP hD hS => ?_)
  refine lv_if_ne (tgt := 15) hX hB dX9_bonusIfDrained_5 (by decide) (fun c_2 => ?_) (fun c_2 => ?_)
  · refine lv_iconst (v := 0) hX hB dX9_bonusIfDrained_15 (by decide) ?_
    refine lv_goto (tgt := 36) hX hB dX9_bonusIfDrained_16 (by decide) ?_
    refine z_callVi (isC := [0, 1]) (isR := []) (isO := [0, 1]) (n_X9_running_1) (q_X9_running_1 cy h0 h1 h2 h3 h4 h5 h6 h7 h8 h9 v2 v3 v4 v5 v6 v7 v8 v9 v10 v11 g) (fun o_3 => [(h0, .inr (11, [.ref h1, .ref h2, .ref h3, .ref h4, .ref h5, .int o_3, .int v2, .int v3, .int v4, .int v5, .ref h6, .int v6, .ref h7, .ref h8, .ref h9, .int v7, .int v8, .int v9, .int v10, .int v11])), (h1, .inl (cy 0, 64, .inl (g)))]) (fun o_3 => 0) (c_X9_running_1 l hE D cy h0 h1 h2 h3 h4 h5 h6 h7 h8 h9 v1 v2 v3 v4 v5 v6 v7 v8 v9 v10 v11 g 0 hr) hE C zs_X9_168 ⟨Nat.le_of_ble_eq_true rfl, Nat.le_of_ble_eq_true rfl⟩ hP hD hS hA hE0 ⟨rfl, rfl, rfl, by decide, rfl, rfl, rfl⟩ 0 rfl rfl rfl rfl hl.1 (Nat.le_of_ble_eq_true rfl) rfl dX9_bonusIfDrained_36 ⟨Nat.le_of_ble_eq_true rfl, Nat.le_of_ble_eq_true rfl⟩ (fun o_3 H locs eo_3 hP hD hS => ?_)
    exact z_iret' o_3 (w' := q_X9_bonusIfDrained_1 cy h0 h1 h2 h3 h4 h5 h6 h7 h8 h9 v2 v3 v4 v5 v6 v7 v8 v9 v10 v11 g) (r0 := (fun (o : Int32) => 0)) (by simp only [n_X9_bonusIfDrained_1, ← eo_1, if_neg c_2, ← eo_3]) C hRT hP hD hS (Nat.le_of_ble_eq_true rfl) (Nat.le_of_ble_eq_true rfl) rfl rfl dX9_bonusIfDrained_39
  · refine lv_aload_n hX hB dX9_bonusIfDrained_8 rfl (lv_at hl 0 rfl) ?_
    refine z_callVi (isC := [0, 1]) (isR := []) (isO := [0, 1]) (n_X9_isSaver g) (q_X9_isSaver cy h0 h1 h2 h3 h4 h5 h6 h7 h8 h9 v1 v2 v3 v4 v5 v6 v7 v8 v9 v10 v11 g) (fun o_4 => [(h0, .inr (11, [.ref h1, .ref h2, .ref h3, .ref h4, .ref h5, .int v1, .int v2, .int v3, .int v4, .int v5, .ref h6, .int v6, .ref h7, .ref h8, .ref h9, .int v7, .int v8, .int v9, .int v10, .int v11])), (h1, .inl (cy 0, 64, .inl (g)))]) (fun o_4 => o_4) (c_X9_isSaver l hE D cy h0 h1 h2 h3 h4 h5 h6 h7 h8 h9 v1 v2 v3 v4 v5 v6 v7 v8 v9 v10 v11 g ) hE C zs_X9_156 ⟨Nat.le_of_ble_eq_true rfl, Nat.le_of_ble_eq_true rfl⟩ hP hD hS hA hE0 ⟨rfl, rfl, rfl, by decide, rfl, rfl, rfl⟩ 0 rfl rfl rfl rfl hl.1 (Nat.le_of_ble_eq_true rfl) rfl dX9_bonusIfDrained_9 ⟨Nat.le_of_ble_eq_true rfl, Nat.le_of_ble_eq_true rfl⟩ (fun o_4 H locs eo_4 hP hD hS => ?_)
    refine lv_if_eq (tgt := 19) hX hB dX9_bonusIfDrained_12 (by decide) (fun c_5 => ?_) (fun c_5 => ?_)
    · refine lv_bipush (v := 100) hX hB dX9_bonusIfDrained_19 (by decide) ?_
      refine lv_aload_n hX hB dX9_bonusIfDrained_21 rfl (lv_at hl 0 rfl) ?_
      refine fg_X9_7 C hP 0 rfl rfl dX9_bonusIfDrained_22 ?_
      refine lv_bipush (v := 7) hX hB dX9_bonusIfDrained_25 (by decide) ?_
      refine z_iald C hP 1 rfl (k := 7) (zlit 7) (by decide) (by decide) (v := g 7) rfl dX9_bonusIfDrained_27 ?_
      refine z_imul (v := 100 * (g 7)) C dX9_bonusIfDrained_28 rfl ?_
      refine lv_aload_n hX hB dX9_bonusIfDrained_29 rfl (lv_at hl 0 rfl) ?_
      refine fg_X9_7 C hP 0 rfl rfl dX9_bonusIfDrained_30 ?_
      refine lv_iconst (v := 5) hX hB dX9_bonusIfDrained_33 (by decide) ?_
      refine z_iald C hP 1 rfl (k := 5) (zlit 5) (by decide) (by decide) (v := g 5) rfl dX9_bonusIfDrained_34 ?_
      refine z_imul (v := (100 * (g 7)) * (g 5)) C dX9_bonusIfDrained_35 rfl ?_
      refine z_callVi (isC := [0, 1]) (isR := []) (isO := [0, 1]) (n_X9_running_1) (q_X9_running_1 cy h0 h1 h2 h3 h4 h5 h6 h7 h8 h9 v2 v3 v4 v5 v6 v7 v8 v9 v10 v11 g) (fun o_6 => [(h0, .inr (11, [.ref h1, .ref h2, .ref h3, .ref h4, .ref h5, .int o_6, .int v2, .int v3, .int v4, .int v5, .ref h6, .int v6, .ref h7, .ref h8, .ref h9, .int v7, .int v8, .int v9, .int v10, .int v11])), (h1, .inl (cy 0, 64, .inl (g)))]) (fun o_6 => 0) (c_X9_running_1 l hE D cy h0 h1 h2 h3 h4 h5 h6 h7 h8 h9 v1 v2 v3 v4 v5 v6 v7 v8 v9 v10 v11 g ((100 * (g 7)) * (g 5)) hr) hE C zs_X9_168 ⟨Nat.le_of_ble_eq_true rfl, Nat.le_of_ble_eq_true rfl⟩ hP hD hS hA hE0 ⟨rfl, rfl, rfl, by decide, rfl, rfl, rfl⟩ 0 rfl rfl rfl rfl hl.1 (Nat.le_of_ble_eq_true rfl) rfl dX9_bonusIfDrained_36 ⟨Nat.le_of_ble_eq_true rfl, Nat.le_of_ble_eq_true rfl⟩ (fun o_6 H locs eo_6 hP hD hS => ?_)
      exact z_iret' o_6 (w' := q_X9_bonusIfDrained_1 cy h0 h1 h2 h3 h4 h5 h6 h7 h8 h9 v2 v3 v4 v5 v6 v7 v8 v9 v10 v11 g) (r0 := (fun (o : Int32) => 0)) (by simp only [n_X9_bonusIfDrained_1, ← eo_1, if_pos c_2, ← eo_4, if_pos c_5, ← eo_6]) C hRT hP hD hS (Nat.le_of_ble_eq_true rfl) (Nat.le_of_ble_eq_true rfl) rfl rfl dX9_bonusIfDrained_39
    · refine lv_iconst (v := 0) hX hB dX9_bonusIfDrained_15 (by decide) ?_
      refine lv_goto (tgt := 36) hX hB dX9_bonusIfDrained_16 (by decide) ?_
      refine z_callVi (isC := [0, 1]) (isR := []) (isO := [0, 1]) (n_X9_running_1) (q_X9_running_1 cy h0 h1 h2 h3 h4 h5 h6 h7 h8 h9 v2 v3 v4 v5 v6 v7 v8 v9 v10 v11 g) (fun o_7 => [(h0, .inr (11, [.ref h1, .ref h2, .ref h3, .ref h4, .ref h5, .int o_7, .int v2, .int v3, .int v4, .int v5, .ref h6, .int v6, .ref h7, .ref h8, .ref h9, .int v7, .int v8, .int v9, .int v10, .int v11])), (h1, .inl (cy 0, 64, .inl (g)))]) (fun o_7 => 0) (c_X9_running_1 l hE D cy h0 h1 h2 h3 h4 h5 h6 h7 h8 h9 v1 v2 v3 v4 v5 v6 v7 v8 v9 v10 v11 g 0 hr) hE C zs_X9_168 ⟨Nat.le_of_ble_eq_true rfl, Nat.le_of_ble_eq_true rfl⟩ hP hD hS hA hE0 ⟨rfl, rfl, rfl, by decide, rfl, rfl, rfl⟩ 0 rfl rfl rfl rfl hl.1 (Nat.le_of_ble_eq_true rfl) rfl dX9_bonusIfDrained_36 ⟨Nat.le_of_ble_eq_true rfl, Nat.le_of_ble_eq_true rfl⟩ (fun o_7 H locs eo_7 hP hD hS => ?_)
      exact z_iret' o_7 (w' := q_X9_bonusIfDrained_1 cy h0 h1 h2 h3 h4 h5 h6 h7 h8 h9 v2 v3 v4 v5 v6 v7 v8 v9 v10 v11 g) (r0 := (fun (o : Int32) => 0)) (by simp only [n_X9_bonusIfDrained_1, ← eo_1, if_pos c_2, ← eo_4, if_neg c_5, ← eo_7]) C hRT hP hD hS (Nat.le_of_ble_eq_true rfl) (Nat.le_of_ble_eq_true rfl) rfl rfl dX9_bonusIfDrained_39

def n_X9_ofPlayer30_ok (g : Nat → Int32) (i : Nat) : Int32 × Int32 :=
  (g (30 + i), 0)
def q_X9_ofPlayer30_ok (cy : Nat → ClassId) (h0 : Nat) (h1 : Nat) (h2 : Nat) (h3 : Nat) (h4 : Nat) (h5 : Nat) (h6 : Nat) (h7 : Nat) (h8 : Nat) (h9 : Nat) (v2 : Int32) (v3 : Int32) (v4 : Int32) (v5 : Int32) (v6 : Int32) (v7 : Int32) (v8 : Int32) (v9 : Int32) (v10 : Int32) (v11 : Int32) (g : Nat → Int32) (o : Int32 × Int32) : va_W := [(h0, .inr (11, [.ref h1, .ref h2, .ref h3, .ref h4, .ref h5, .int o.2, .int v2, .int v3, .int v4, .int v5, .ref h6, .int v6, .ref h7, .ref h8, .ref h9, .int v7, .int v8, .int v9, .int v10, .int v11])), (h1, .inl (cy 0, 64, .inl (g)))]
set_option maxHeartbeats 4000000 in
set_option maxRecDepth 100000 in
theorem c_X9_ofPlayer30_ok (l : Launch) {E : zEn} (hE : zEok E) (D : zG) (cy : Nat → ClassId) (h0 h1 h2 h3 h4 h5 h6 h7 h8 h9 : Nat) (v1 : Int32) (v2 : Int32) (v3 : Int32) (v4 : Int32) (v5 : Int32) (v6 : Int32) (v7 : Int32) (v8 : Int32) (v9 : Int32) (v10 : Int32) (v11 : Int32) (g : Nat → Int32) (x : Int32) (i : Nat) (hx : zi x i) (hi : i < zn (g 2)) (hn : zle (g 2) 4) (sz : Nat) : Met l yX9_ofPlayer (zws yX9_ofPlayer cX9_ofPlayer 3 (some .int)) { frames := 1, cells := 0, slots := 0, locals := 22 } (zPre E D cy [.ref h0, .int x, .int 30] [(h0, .inr (11, [.ref h1, .ref h2, .ref h3, .ref h4, .ref h5, .int v1, .int v2, .int v3, .int v4, .int v5, .ref h6, .int v6, .ref h7, .ref h8, .ref h9, .int v7, .int v8, .int v9, .int v10, .int v11])), (h1, .inl (cy 0, 64, .inl (g)))] sz) (zQi D ((q_X9_ofPlayer30_ok cy h0 h1 h2 h3 h4 h5 h6 h7 h8 h9 v2 v3 v4 v5 v6 v7 v8 v9 v10 v11 g) (n_X9_ofPlayer30_ok g i)) (va_A [(h0, .inr (11, [.ref h1, .ref h2, .ref h3, .ref h4, .ref h5, .int v1, .int v2, .int v3, .int v4, .int v5, .ref h6, .int v6, .ref h7, .ref h8, .ref h9, .int v7, .int v8, .int v9, .int v10, .int v11])), (h1, .inl (cy 0, 64, .inl (g)))] sz) ((n_X9_ofPlayer30_ok g i).1)) 0 0 (va_A [(h0, .inr (11, [.ref h1, .ref h2, .ref h3, .ref h4, .ref h5, .int v1, .int v2, .int v3, .int v4, .int v5, .ref h6, .int v6, .ref h7, .ref h8, .ref h9, .int v7, .int v8, .int v9, .int v10, .int v11])), (h1, .inl (cy 0, 64, .inl (g)))] sz) := by
  refine z_of (Qc := fun A => zQi D ((q_X9_ofPlayer30_ok cy h0 h1 h2 h3 h4 h5 h6 h7 h8 h9 v2 v3 v4 v5 v6 v7 v8 v9 v10 v11 g) (n_X9_ofPlayer30_ok g i)) A ((n_X9_ofPlayer30_ok g i).1)) (by decide +kernel) (Nat.le_of_ble_eq_true rfl) rfl ?_
  intro pG eN sT mI below meth cO A ls C hRT hnm hA hP hD hS hE0 hl
  have hX := C.x
  have hB := C.b
  have hn_ := hn.2
  refine lv_aload_n hX hB dX9_ofPlayer_0 rfl (lv_at hl 0 rfl) ?_
  refine lv_iload_n hX hB dX9_ofPlayer_1 rfl (lv_at hl 1 rfl) ?_
  refine lv_iconst (v := 0) hX hB dX9_ofPlayer_2 (by decide) ?_
  refine lv_aload_n hX hB dX9_ofPlayer_3 rfl (lv_at hl 0 rfl) ?_
  refine fg_X9_7 C hP 0 rfl rfl dX9_ofPlayer_4 ?_
  refine lv_iconst (v := 2) hX hB dX9_ofPlayer_7 (by decide) ?_
  refine z_iald C hP 1 rfl (k := 2) (zlit 2) (by decide) (by decide) (v := g 2) rfl dX9_ofPlayer_8 ?_
  refine lv_iconst (v := 1) hX hB dX9_ofPlayer_9 (by decide) ?_
  refine z_isub (v := nI ((zn (g 2)) - 1)) C dX9_ofPlayer_10 (zi_sub hn.1 (zlit 1) (by omega)) ?_
  refine z_callSi (isC := []) (isR := [0, 1]) (isO := [0, 1]) (()) (q_X9_in_t ) (fun o_1 => [(h0, .inr (11, [.ref h1, .ref h2, .ref h3, .ref h4, .ref h5, .int v1, .int v2, .int v3, .int v4, .int v5, .ref h6, .int v6, .ref h7, .ref h8, .ref h9, .int v7, .int v8, .int v9, .int v10, .int v11])), (h1, .inl (cy 0, 64, .inl (g)))]) (fun o_1 => 1) (c_X9_in_t l hE D cy  x i 0 0 (nI ((zn (g 2)) - 1)) ((zn (g 2)) - 1) hx (zlit 0) (zi_i ((zn (g 2)) - 1)) (by omega) (by omega) (by omega)) hE C zs_X9_127 ⟨Nat.le_of_ble_eq_true rfl, Nat.le_of_ble_eq_true rfl⟩ hP hD hS hA hE0 ⟨rfl, rfl, rfl, by decide, rfl, rfl, rfl⟩ rfl hl.1 (Nat.le_of_ble_eq_true rfl) rfl dX9_ofPlayer_11 ⟨Nat.le_of_ble_eq_true rfl, Nat.le_of_ble_eq_true rfl⟩ (fun o_1 H locs eo_1 hP hD hS => ?_)
  refine lv_if_eq (tgt := 21) hX hB dX9_ofPlayer_14 (by decide) (fun c => absurd c (by decide)) (fun _ => ?_)
  refine lv_iconst (v := 0) hX hB dX9_ofPlayer_17 (by decide) ?_
  refine lv_goto (tgt := 22) hX hB dX9_ofPlayer_18 (by decide) ?_
  refine fp_X9_25 C hP hD hS 0 rfl rfl rfl (Nat.le_of_ble_eq_true rfl) (w' := [(h0, .inr (11, [.ref h1, .ref h2, .ref h3, .ref h4, .ref h5, .int 0, .int v2, .int v3, .int v4, .int v5, .ref h6, .int v6, .ref h7, .ref h8, .ref h9, .int v7, .int v8, .int v9, .int v10, .int v11])), (h1, .inl (cy 0, 64, .inl (g)))]) rfl dX9_ofPlayer_22 (fun H locs hP hD hS => ?_)
  refine lv_aload_n hX hB dX9_ofPlayer_25 rfl (lv_at hl 0 rfl) ?_
  refine fg_X9_25 C hP 0 rfl rfl dX9_ofPlayer_26 ?_
  refine lv_if_le (tgt := 36) hX hB dX9_ofPlayer_29 (by decide) (fun _ => ?_) (fun c => absurd (by decide) c)
  refine lv_aload_n hX hB dX9_ofPlayer_36 rfl (lv_at hl 0 rfl) ?_
  refine fg_X9_7 C hP 0 rfl rfl dX9_ofPlayer_37 ?_
  refine lv_iload_n hX hB dX9_ofPlayer_40 rfl (lv_at hl 2 rfl) ?_
  refine lv_iload_n hX hB dX9_ofPlayer_41 rfl (lv_at hl 1 rfl) ?_
  refine z_iadd (v := nI (30 + i)) C dX9_ofPlayer_42 (zi_add (zlit 30) hx) ?_
  refine z_iald C hP 1 rfl (k := 30 + i) (zi_i (30 + i)) (by omega) (by decide) (v := g (30 + i)) rfl dX9_ofPlayer_43 ?_
  exact z_iret' (g (30 + i), 0) (w' := q_X9_ofPlayer30_ok cy h0 h1 h2 h3 h4 h5 h6 h7 h8 h9 v2 v3 v4 v5 v6 v7 v8 v9 v10 v11 g) (r0 := (fun (o : Int32 × Int32) => o.1)) (by simp only [n_X9_ofPlayer30_ok]) C hRT hP hD hS (Nat.le_of_ble_eq_true rfl) (Nat.le_of_ble_eq_true rfl) rfl rfl dX9_ofPlayer_44

def n_X9_ofPlayer30_1 (g : Nat → Int32) (x : Int32) : Int32 :=
  let o_1 := n_X9_in x 0 ((g 2) - 1)
  1
def q_X9_ofPlayer30_1 (cy : Nat → ClassId) (h0 : Nat) (h1 : Nat) (h2 : Nat) (h3 : Nat) (h4 : Nat) (h5 : Nat) (h6 : Nat) (h7 : Nat) (h8 : Nat) (h9 : Nat) (v2 : Int32) (v3 : Int32) (v4 : Int32) (v5 : Int32) (v6 : Int32) (v7 : Int32) (v8 : Int32) (v9 : Int32) (v10 : Int32) (v11 : Int32) (g : Nat → Int32) (o : Int32) : va_W := [(h0, .inr (11, [.ref h1, .ref h2, .ref h3, .ref h4, .ref h5, .int o, .int v2, .int v3, .int v4, .int v5, .ref h6, .int v6, .ref h7, .ref h8, .ref h9, .int v7, .int v8, .int v9, .int v10, .int v11])), (h1, .inl (cy 0, 64, .inl (g)))]
set_option maxHeartbeats 4000000 in
set_option maxRecDepth 100000 in
theorem c_X9_ofPlayer30_1 (l : Launch) {E : zEn} (hE : zEok E) (D : zG) (cy : Nat → ClassId) (h0 h1 h2 h3 h4 h5 h6 h7 h8 h9 : Nat) (v1 : Int32) (v2 : Int32) (v3 : Int32) (v4 : Int32) (v5 : Int32) (v6 : Int32) (v7 : Int32) (v8 : Int32) (v9 : Int32) (v10 : Int32) (v11 : Int32) (g : Nat → Int32) (x : Int32) (hin : n_X9_in x 0 ((g 2) - 1) = 0) (sz : Nat) : Met l yX9_ofPlayer (zws yX9_ofPlayer cX9_ofPlayer 3 (some .int)) { frames := 1, cells := 0, slots := 0, locals := 22 } (zPre E D cy [.ref h0, .int x, .int 30] [(h0, .inr (11, [.ref h1, .ref h2, .ref h3, .ref h4, .ref h5, .int v1, .int v2, .int v3, .int v4, .int v5, .ref h6, .int v6, .ref h7, .ref h8, .ref h9, .int v7, .int v8, .int v9, .int v10, .int v11])), (h1, .inl (cy 0, 64, .inl (g)))] sz) (zQi D ((q_X9_ofPlayer30_1 cy h0 h1 h2 h3 h4 h5 h6 h7 h8 h9 v2 v3 v4 v5 v6 v7 v8 v9 v10 v11 g) (n_X9_ofPlayer30_1 g x)) (va_A [(h0, .inr (11, [.ref h1, .ref h2, .ref h3, .ref h4, .ref h5, .int v1, .int v2, .int v3, .int v4, .int v5, .ref h6, .int v6, .ref h7, .ref h8, .ref h9, .int v7, .int v8, .int v9, .int v10, .int v11])), (h1, .inl (cy 0, 64, .inl (g)))] sz) (0)) 0 0 (va_A [(h0, .inr (11, [.ref h1, .ref h2, .ref h3, .ref h4, .ref h5, .int v1, .int v2, .int v3, .int v4, .int v5, .ref h6, .int v6, .ref h7, .ref h8, .ref h9, .int v7, .int v8, .int v9, .int v10, .int v11])), (h1, .inl (cy 0, 64, .inl (g)))] sz) := by
  refine z_of (Qc := fun A => zQi D ((q_X9_ofPlayer30_1 cy h0 h1 h2 h3 h4 h5 h6 h7 h8 h9 v2 v3 v4 v5 v6 v7 v8 v9 v10 v11 g) (n_X9_ofPlayer30_1 g x)) A (0)) (by decide +kernel) (Nat.le_of_ble_eq_true rfl) rfl ?_
  intro pG eN sT mI below meth cO A ls C hRT hnm hA hP hD hS hE0 hl
  have hX := C.x
  have hB := C.b
  refine lv_aload_n hX hB dX9_ofPlayer_0 rfl (lv_at hl 0 rfl) ?_
  refine lv_iload_n hX hB dX9_ofPlayer_1 rfl (lv_at hl 1 rfl) ?_
  refine lv_iconst (v := 0) hX hB dX9_ofPlayer_2 (by decide) ?_
  refine lv_aload_n hX hB dX9_ofPlayer_3 rfl (lv_at hl 0 rfl) ?_
  refine fg_X9_7 C hP 0 rfl rfl dX9_ofPlayer_4 ?_
  refine lv_iconst (v := 2) hX hB dX9_ofPlayer_7 (by decide) ?_
  refine z_iald C hP 1 rfl (k := 2) (zlit 2) (by decide) (by decide) (v := g 2) rfl dX9_ofPlayer_8 ?_
  refine lv_iconst (v := 1) hX hB dX9_ofPlayer_9 (by decide) ?_
  refine z_isub (v := (g 2) - 1) C dX9_ofPlayer_10 rfl ?_
  refine z_callSi (isC := []) (isR := [0, 1]) (isO := [0, 1]) (n_X9_in x 0 ((g 2) - 1)) (q_X9_in ) (fun o_1 => [(h0, .inr (11, [.ref h1, .ref h2, .ref h3, .ref h4, .ref h5, .int v1, .int v2, .int v3, .int v4, .int v5, .ref h6, .int v6, .ref h7, .ref h8, .ref h9, .int v7, .int v8, .int v9, .int v10, .int v11])), (h1, .inl (cy 0, 64, .inl (g)))]) (fun o_1 => o_1) (c_X9_in l hE D cy  x 0 ((g 2) - 1) ) hE C zs_X9_127 ⟨Nat.le_of_ble_eq_true rfl, Nat.le_of_ble_eq_true rfl⟩ hP hD hS hA hE0 ⟨rfl, rfl, rfl, by decide, rfl, rfl, rfl⟩ rfl hl.1 (Nat.le_of_ble_eq_true rfl) rfl dX9_ofPlayer_11 ⟨Nat.le_of_ble_eq_true rfl, Nat.le_of_ble_eq_true rfl⟩ (fun o_1 H locs eo_1 hP hD hS => ?_)
  refine lv_if_eq (tgt := 21) hX hB dX9_ofPlayer_14 (by decide) (fun _ => ?_) (fun c => absurd (by rw [eo_1]; exact hin) c)
  refine lv_iconst (v := 1) hX hB dX9_ofPlayer_21 (by decide) ?_
  refine fp_X9_25 C hP hD hS 0 rfl rfl rfl (Nat.le_of_ble_eq_true rfl) (w' := [(h0, .inr (11, [.ref h1, .ref h2, .ref h3, .ref h4, .ref h5, .int 1, .int v2, .int v3, .int v4, .int v5, .ref h6, .int v6, .ref h7, .ref h8, .ref h9, .int v7, .int v8, .int v9, .int v10, .int v11])), (h1, .inl (cy 0, 64, .inl (g)))]) rfl dX9_ofPlayer_22 (fun H locs hP hD hS => ?_)
  refine lv_aload_n hX hB dX9_ofPlayer_25 rfl (lv_at hl 0 rfl) ?_
  refine fg_X9_25 C hP 0 rfl rfl dX9_ofPlayer_26 ?_
  refine lv_if_le (tgt := 36) hX hB dX9_ofPlayer_29 (by decide) (fun c => absurd c (by decide)) (fun _ => ?_)
  refine lv_iconst (v := 0) hX hB dX9_ofPlayer_32 (by decide) ?_
  refine lv_goto (tgt := 44) hX hB dX9_ofPlayer_33 (by decide) ?_
  exact z_iret' 1 (w' := q_X9_ofPlayer30_1 cy h0 h1 h2 h3 h4 h5 h6 h7 h8 h9 v2 v3 v4 v5 v6 v7 v8 v9 v10 v11 g) (r0 := (fun (o : Int32) => 0)) (by simp only [n_X9_ofPlayer30_1, ← eo_1]) C hRT hP hD hS (Nat.le_of_ble_eq_true rfl) (Nat.le_of_ble_eq_true rfl) rfl rfl dX9_ofPlayer_44

def n_X9_score_ok (g : Nat → Int32) (i : Nat) : Int32 × Int32 :=
  let o_1 := n_X9_ofPlayer30_ok g i
  (o_1.1, o_1.2)
def q_X9_score_ok (cy : Nat → ClassId) (h0 : Nat) (h1 : Nat) (h2 : Nat) (h3 : Nat) (h4 : Nat) (h5 : Nat) (h6 : Nat) (h7 : Nat) (h8 : Nat) (h9 : Nat) (v2 : Int32) (v3 : Int32) (v4 : Int32) (v5 : Int32) (v6 : Int32) (v7 : Int32) (v8 : Int32) (v9 : Int32) (v10 : Int32) (v11 : Int32) (g : Nat → Int32) (o : Int32 × Int32) : va_W := [(h0, .inr (11, [.ref h1, .ref h2, .ref h3, .ref h4, .ref h5, .int o.2, .int v2, .int v3, .int v4, .int v5, .ref h6, .int v6, .ref h7, .ref h8, .ref h9, .int v7, .int v8, .int v9, .int v10, .int v11])), (h1, .inl (cy 0, 64, .inl (g)))]
set_option maxHeartbeats 4000000 in
set_option maxRecDepth 100000 in
theorem c_X9_score_ok (l : Launch) {E : zEn} (hE : zEok E) (D : zG) (cy : Nat → ClassId) (h0 h1 h2 h3 h4 h5 h6 h7 h8 h9 : Nat) (v1 : Int32) (v2 : Int32) (v3 : Int32) (v4 : Int32) (v5 : Int32) (v6 : Int32) (v7 : Int32) (v8 : Int32) (v9 : Int32) (v10 : Int32) (v11 : Int32) (g : Nat → Int32) (x : Int32) (i : Nat) (hx : zi x i) (hi : i < zn (g 2)) (hn : zle (g 2) 4) (sz : Nat) : Met l yX9_score (zws yX9_score cX9_score 2 (some .int)) { frames := 2, cells := 0, slots := 0, locals := 44 } (zPre E D cy [.ref h0, .int x] [(h0, .inr (11, [.ref h1, .ref h2, .ref h3, .ref h4, .ref h5, .int v1, .int v2, .int v3, .int v4, .int v5, .ref h6, .int v6, .ref h7, .ref h8, .ref h9, .int v7, .int v8, .int v9, .int v10, .int v11])), (h1, .inl (cy 0, 64, .inl (g)))] sz) (zQi D ((q_X9_score_ok cy h0 h1 h2 h3 h4 h5 h6 h7 h8 h9 v2 v3 v4 v5 v6 v7 v8 v9 v10 v11 g) (n_X9_score_ok g i)) (va_A [(h0, .inr (11, [.ref h1, .ref h2, .ref h3, .ref h4, .ref h5, .int v1, .int v2, .int v3, .int v4, .int v5, .ref h6, .int v6, .ref h7, .ref h8, .ref h9, .int v7, .int v8, .int v9, .int v10, .int v11])), (h1, .inl (cy 0, 64, .inl (g)))] sz) ((n_X9_score_ok g i).1)) 0 0 (va_A [(h0, .inr (11, [.ref h1, .ref h2, .ref h3, .ref h4, .ref h5, .int v1, .int v2, .int v3, .int v4, .int v5, .ref h6, .int v6, .ref h7, .ref h8, .ref h9, .int v7, .int v8, .int v9, .int v10, .int v11])), (h1, .inl (cy 0, 64, .inl (g)))] sz) := by
  refine z_of (Qc := fun A => zQi D ((q_X9_score_ok cy h0 h1 h2 h3 h4 h5 h6 h7 h8 h9 v2 v3 v4 v5 v6 v7 v8 v9 v10 v11 g) (n_X9_score_ok g i)) A ((n_X9_score_ok g i).1)) (by decide +kernel) (Nat.le_of_ble_eq_true rfl) rfl ?_
  intro pG eN sT mI below meth cO A ls C hRT hnm hA hP hD hS hE0 hl
  have hX := C.x
  have hB := C.b
  have hn_ := hn.2
  refine lv_aload_n hX hB dX9_score_0 rfl (lv_at hl 0 rfl) ?_
  refine lv_iload_n hX hB dX9_score_1 rfl (lv_at hl 1 rfl) ?_
  refine lv_bipush (v := 30) hX hB dX9_score_2 (by decide) ?_
  refine z_callVi (isC := [0, 1]) (isR := []) (isO := [0, 1]) (n_X9_ofPlayer30_ok g i) (q_X9_ofPlayer30_ok cy h0 h1 h2 h3 h4 h5 h6 h7 h8 h9 v2 v3 v4 v5 v6 v7 v8 v9 v10 v11 g) (fun o_1 => [(h0, .inr (11, [.ref h1, .ref h2, .ref h3, .ref h4, .ref h5, .int o_1.2, .int v2, .int v3, .int v4, .int v5, .ref h6, .int v6, .ref h7, .ref h8, .ref h9, .int v7, .int v8, .int v9, .int v10, .int v11])), (h1, .inl (cy 0, 64, .inl (g)))]) (fun o_1 => o_1.1) (c_X9_ofPlayer30_ok l hE D cy h0 h1 h2 h3 h4 h5 h6 h7 h8 h9 v1 v2 v3 v4 v5 v6 v7 v8 v9 v10 v11 g x i hx (by omega) (zle_of (zi_tr rfl hn.1) (by omega) (by decide))) hE C zs_X9_171 ⟨Nat.le_of_ble_eq_true rfl, Nat.le_of_ble_eq_true rfl⟩ hP hD hS hA hE0 ⟨rfl, rfl, rfl, by decide, rfl, rfl, rfl⟩ 0 rfl rfl rfl rfl hl.1 (Nat.le_of_ble_eq_true rfl) rfl dX9_score_4 ⟨Nat.le_of_ble_eq_true rfl, Nat.le_of_ble_eq_true rfl⟩ (fun o_1 H locs eo_1 hP hD hS => ?_)
  exact z_iret' (o_1.1, o_1.2) (w' := q_X9_score_ok cy h0 h1 h2 h3 h4 h5 h6 h7 h8 h9 v2 v3 v4 v5 v6 v7 v8 v9 v10 v11 g) (r0 := (fun (o : Int32 × Int32) => o.1)) (by simp only [n_X9_score_ok, ← eo_1]) C hRT hP hD hS (Nat.le_of_ble_eq_true rfl) (Nat.le_of_ble_eq_true rfl) rfl rfl dX9_score_7

def n_X9_score_1 (g : Nat → Int32) (x : Int32) : Int32 :=
  let o_1 := n_X9_ofPlayer30_1 g x
  o_1
def q_X9_score_1 (cy : Nat → ClassId) (h0 : Nat) (h1 : Nat) (h2 : Nat) (h3 : Nat) (h4 : Nat) (h5 : Nat) (h6 : Nat) (h7 : Nat) (h8 : Nat) (h9 : Nat) (v2 : Int32) (v3 : Int32) (v4 : Int32) (v5 : Int32) (v6 : Int32) (v7 : Int32) (v8 : Int32) (v9 : Int32) (v10 : Int32) (v11 : Int32) (g : Nat → Int32) (o : Int32) : va_W := [(h0, .inr (11, [.ref h1, .ref h2, .ref h3, .ref h4, .ref h5, .int o, .int v2, .int v3, .int v4, .int v5, .ref h6, .int v6, .ref h7, .ref h8, .ref h9, .int v7, .int v8, .int v9, .int v10, .int v11])), (h1, .inl (cy 0, 64, .inl (g)))]
set_option maxHeartbeats 4000000 in
set_option maxRecDepth 100000 in
theorem c_X9_score_1 (l : Launch) {E : zEn} (hE : zEok E) (D : zG) (cy : Nat → ClassId) (h0 h1 h2 h3 h4 h5 h6 h7 h8 h9 : Nat) (v1 : Int32) (v2 : Int32) (v3 : Int32) (v4 : Int32) (v5 : Int32) (v6 : Int32) (v7 : Int32) (v8 : Int32) (v9 : Int32) (v10 : Int32) (v11 : Int32) (g : Nat → Int32) (x : Int32) (hin : n_X9_in x 0 ((g 2) - 1) = 0) (sz : Nat) : Met l yX9_score (zws yX9_score cX9_score 2 (some .int)) { frames := 2, cells := 0, slots := 0, locals := 44 } (zPre E D cy [.ref h0, .int x] [(h0, .inr (11, [.ref h1, .ref h2, .ref h3, .ref h4, .ref h5, .int v1, .int v2, .int v3, .int v4, .int v5, .ref h6, .int v6, .ref h7, .ref h8, .ref h9, .int v7, .int v8, .int v9, .int v10, .int v11])), (h1, .inl (cy 0, 64, .inl (g)))] sz) (zQi D ((q_X9_score_1 cy h0 h1 h2 h3 h4 h5 h6 h7 h8 h9 v2 v3 v4 v5 v6 v7 v8 v9 v10 v11 g) (n_X9_score_1 g x)) (va_A [(h0, .inr (11, [.ref h1, .ref h2, .ref h3, .ref h4, .ref h5, .int v1, .int v2, .int v3, .int v4, .int v5, .ref h6, .int v6, .ref h7, .ref h8, .ref h9, .int v7, .int v8, .int v9, .int v10, .int v11])), (h1, .inl (cy 0, 64, .inl (g)))] sz) (0)) 0 0 (va_A [(h0, .inr (11, [.ref h1, .ref h2, .ref h3, .ref h4, .ref h5, .int v1, .int v2, .int v3, .int v4, .int v5, .ref h6, .int v6, .ref h7, .ref h8, .ref h9, .int v7, .int v8, .int v9, .int v10, .int v11])), (h1, .inl (cy 0, 64, .inl (g)))] sz) := by
  refine z_of (Qc := fun A => zQi D ((q_X9_score_1 cy h0 h1 h2 h3 h4 h5 h6 h7 h8 h9 v2 v3 v4 v5 v6 v7 v8 v9 v10 v11 g) (n_X9_score_1 g x)) A (0)) (by decide +kernel) (Nat.le_of_ble_eq_true rfl) rfl ?_
  intro pG eN sT mI below meth cO A ls C hRT hnm hA hP hD hS hE0 hl
  have hX := C.x
  have hB := C.b
  refine lv_aload_n hX hB dX9_score_0 rfl (lv_at hl 0 rfl) ?_
  refine lv_iload_n hX hB dX9_score_1 rfl (lv_at hl 1 rfl) ?_
  refine lv_bipush (v := 30) hX hB dX9_score_2 (by decide) ?_
  refine z_callVi (isC := [0, 1]) (isR := []) (isO := [0, 1]) (n_X9_ofPlayer30_1 g x) (q_X9_ofPlayer30_1 cy h0 h1 h2 h3 h4 h5 h6 h7 h8 h9 v2 v3 v4 v5 v6 v7 v8 v9 v10 v11 g) (fun o_1 => [(h0, .inr (11, [.ref h1, .ref h2, .ref h3, .ref h4, .ref h5, .int o_1, .int v2, .int v3, .int v4, .int v5, .ref h6, .int v6, .ref h7, .ref h8, .ref h9, .int v7, .int v8, .int v9, .int v10, .int v11])), (h1, .inl (cy 0, 64, .inl (g)))]) (fun o_1 => 0) (c_X9_ofPlayer30_1 l hE D cy h0 h1 h2 h3 h4 h5 h6 h7 h8 h9 v1 v2 v3 v4 v5 v6 v7 v8 v9 v10 v11 g x hin) hE C zs_X9_171 ⟨Nat.le_of_ble_eq_true rfl, Nat.le_of_ble_eq_true rfl⟩ hP hD hS hA hE0 ⟨rfl, rfl, rfl, by decide, rfl, rfl, rfl⟩ 0 rfl rfl rfl rfl hl.1 (Nat.le_of_ble_eq_true rfl) rfl dX9_score_4 ⟨Nat.le_of_ble_eq_true rfl, Nat.le_of_ble_eq_true rfl⟩ (fun o_1 H locs eo_1 hP hD hS => ?_)
  exact z_iret' o_1 (w' := q_X9_score_1 cy h0 h1 h2 h3 h4 h5 h6 h7 h8 h9 v2 v3 v4 v5 v6 v7 v8 v9 v10 v11 g) (r0 := (fun (o : Int32) => 0)) (by simp only [n_X9_score_1, ← eo_1]) C hRT hP hD hS (Nat.le_of_ble_eq_true rfl) (Nat.le_of_ble_eq_true rfl) rfl rfl dX9_score_7

def n_X9_ofPlayer34_ok (g : Nat → Int32) (i : Nat) : Int32 × Int32 :=
  (g (34 + i), 0)
def q_X9_ofPlayer34_ok (cy : Nat → ClassId) (h0 : Nat) (h1 : Nat) (h2 : Nat) (h3 : Nat) (h4 : Nat) (h5 : Nat) (h6 : Nat) (h7 : Nat) (h8 : Nat) (h9 : Nat) (v2 : Int32) (v3 : Int32) (v4 : Int32) (v5 : Int32) (v6 : Int32) (v7 : Int32) (v8 : Int32) (v9 : Int32) (v10 : Int32) (v11 : Int32) (g : Nat → Int32) (o : Int32 × Int32) : va_W := [(h0, .inr (11, [.ref h1, .ref h2, .ref h3, .ref h4, .ref h5, .int o.2, .int v2, .int v3, .int v4, .int v5, .ref h6, .int v6, .ref h7, .ref h8, .ref h9, .int v7, .int v8, .int v9, .int v10, .int v11])), (h1, .inl (cy 0, 64, .inl (g)))]
set_option maxHeartbeats 4000000 in
set_option maxRecDepth 100000 in
theorem c_X9_ofPlayer34_ok (l : Launch) {E : zEn} (hE : zEok E) (D : zG) (cy : Nat → ClassId) (h0 h1 h2 h3 h4 h5 h6 h7 h8 h9 : Nat) (v1 : Int32) (v2 : Int32) (v3 : Int32) (v4 : Int32) (v5 : Int32) (v6 : Int32) (v7 : Int32) (v8 : Int32) (v9 : Int32) (v10 : Int32) (v11 : Int32) (g : Nat → Int32) (x : Int32) (i : Nat) (hx : zi x i) (hi : i < zn (g 2)) (hn : zle (g 2) 4) (sz : Nat) : Met l yX9_ofPlayer (zws yX9_ofPlayer cX9_ofPlayer 3 (some .int)) { frames := 1, cells := 0, slots := 0, locals := 22 } (zPre E D cy [.ref h0, .int x, .int 34] [(h0, .inr (11, [.ref h1, .ref h2, .ref h3, .ref h4, .ref h5, .int v1, .int v2, .int v3, .int v4, .int v5, .ref h6, .int v6, .ref h7, .ref h8, .ref h9, .int v7, .int v8, .int v9, .int v10, .int v11])), (h1, .inl (cy 0, 64, .inl (g)))] sz) (zQi D ((q_X9_ofPlayer34_ok cy h0 h1 h2 h3 h4 h5 h6 h7 h8 h9 v2 v3 v4 v5 v6 v7 v8 v9 v10 v11 g) (n_X9_ofPlayer34_ok g i)) (va_A [(h0, .inr (11, [.ref h1, .ref h2, .ref h3, .ref h4, .ref h5, .int v1, .int v2, .int v3, .int v4, .int v5, .ref h6, .int v6, .ref h7, .ref h8, .ref h9, .int v7, .int v8, .int v9, .int v10, .int v11])), (h1, .inl (cy 0, 64, .inl (g)))] sz) ((n_X9_ofPlayer34_ok g i).1)) 0 0 (va_A [(h0, .inr (11, [.ref h1, .ref h2, .ref h3, .ref h4, .ref h5, .int v1, .int v2, .int v3, .int v4, .int v5, .ref h6, .int v6, .ref h7, .ref h8, .ref h9, .int v7, .int v8, .int v9, .int v10, .int v11])), (h1, .inl (cy 0, 64, .inl (g)))] sz) := by
  refine z_of (Qc := fun A => zQi D ((q_X9_ofPlayer34_ok cy h0 h1 h2 h3 h4 h5 h6 h7 h8 h9 v2 v3 v4 v5 v6 v7 v8 v9 v10 v11 g) (n_X9_ofPlayer34_ok g i)) A ((n_X9_ofPlayer34_ok g i).1)) (by decide +kernel) (Nat.le_of_ble_eq_true rfl) rfl ?_
  intro pG eN sT mI below meth cO A ls C hRT hnm hA hP hD hS hE0 hl
  have hX := C.x
  have hB := C.b
  have hn_ := hn.2
  refine lv_aload_n hX hB dX9_ofPlayer_0 rfl (lv_at hl 0 rfl) ?_
  refine lv_iload_n hX hB dX9_ofPlayer_1 rfl (lv_at hl 1 rfl) ?_
  refine lv_iconst (v := 0) hX hB dX9_ofPlayer_2 (by decide) ?_
  refine lv_aload_n hX hB dX9_ofPlayer_3 rfl (lv_at hl 0 rfl) ?_
  refine fg_X9_7 C hP 0 rfl rfl dX9_ofPlayer_4 ?_
  refine lv_iconst (v := 2) hX hB dX9_ofPlayer_7 (by decide) ?_
  refine z_iald C hP 1 rfl (k := 2) (zlit 2) (by decide) (by decide) (v := g 2) rfl dX9_ofPlayer_8 ?_
  refine lv_iconst (v := 1) hX hB dX9_ofPlayer_9 (by decide) ?_
  refine z_isub (v := nI ((zn (g 2)) - 1)) C dX9_ofPlayer_10 (zi_sub hn.1 (zlit 1) (by omega)) ?_
  refine z_callSi (isC := []) (isR := [0, 1]) (isO := [0, 1]) (()) (q_X9_in_t ) (fun o_1 => [(h0, .inr (11, [.ref h1, .ref h2, .ref h3, .ref h4, .ref h5, .int v1, .int v2, .int v3, .int v4, .int v5, .ref h6, .int v6, .ref h7, .ref h8, .ref h9, .int v7, .int v8, .int v9, .int v10, .int v11])), (h1, .inl (cy 0, 64, .inl (g)))]) (fun o_1 => 1) (c_X9_in_t l hE D cy  x i 0 0 (nI ((zn (g 2)) - 1)) ((zn (g 2)) - 1) hx (zlit 0) (zi_i ((zn (g 2)) - 1)) (by omega) (by omega) (by omega)) hE C zs_X9_127 ⟨Nat.le_of_ble_eq_true rfl, Nat.le_of_ble_eq_true rfl⟩ hP hD hS hA hE0 ⟨rfl, rfl, rfl, by decide, rfl, rfl, rfl⟩ rfl hl.1 (Nat.le_of_ble_eq_true rfl) rfl dX9_ofPlayer_11 ⟨Nat.le_of_ble_eq_true rfl, Nat.le_of_ble_eq_true rfl⟩ (fun o_1 H locs eo_1 hP hD hS => ?_)
  refine lv_if_eq (tgt := 21) hX hB dX9_ofPlayer_14 (by decide) (fun c => absurd c (by decide)) (fun _ => ?_)
  refine lv_iconst (v := 0) hX hB dX9_ofPlayer_17 (by decide) ?_
  refine lv_goto (tgt := 22) hX hB dX9_ofPlayer_18 (by decide) ?_
  refine fp_X9_25 C hP hD hS 0 rfl rfl rfl (Nat.le_of_ble_eq_true rfl) (w' := [(h0, .inr (11, [.ref h1, .ref h2, .ref h3, .ref h4, .ref h5, .int 0, .int v2, .int v3, .int v4, .int v5, .ref h6, .int v6, .ref h7, .ref h8, .ref h9, .int v7, .int v8, .int v9, .int v10, .int v11])), (h1, .inl (cy 0, 64, .inl (g)))]) rfl dX9_ofPlayer_22 (fun H locs hP hD hS => ?_)
  refine lv_aload_n hX hB dX9_ofPlayer_25 rfl (lv_at hl 0 rfl) ?_
  refine fg_X9_25 C hP 0 rfl rfl dX9_ofPlayer_26 ?_
  refine lv_if_le (tgt := 36) hX hB dX9_ofPlayer_29 (by decide) (fun _ => ?_) (fun c => absurd (by decide) c)
  refine lv_aload_n hX hB dX9_ofPlayer_36 rfl (lv_at hl 0 rfl) ?_
  refine fg_X9_7 C hP 0 rfl rfl dX9_ofPlayer_37 ?_
  refine lv_iload_n hX hB dX9_ofPlayer_40 rfl (lv_at hl 2 rfl) ?_
  refine lv_iload_n hX hB dX9_ofPlayer_41 rfl (lv_at hl 1 rfl) ?_
  refine z_iadd (v := nI (34 + i)) C dX9_ofPlayer_42 (zi_add (zlit 34) hx) ?_
  refine z_iald C hP 1 rfl (k := 34 + i) (zi_i (34 + i)) (by omega) (by decide) (v := g (34 + i)) rfl dX9_ofPlayer_43 ?_
  exact z_iret' (g (34 + i), 0) (w' := q_X9_ofPlayer34_ok cy h0 h1 h2 h3 h4 h5 h6 h7 h8 h9 v2 v3 v4 v5 v6 v7 v8 v9 v10 v11 g) (r0 := (fun (o : Int32 × Int32) => o.1)) (by simp only [n_X9_ofPlayer34_ok]) C hRT hP hD hS (Nat.le_of_ble_eq_true rfl) (Nat.le_of_ble_eq_true rfl) rfl rfl dX9_ofPlayer_44

def n_X9_ofPlayer34_1 (g : Nat → Int32) (x : Int32) : Int32 :=
  let o_1 := n_X9_in x 0 ((g 2) - 1)
  1
def q_X9_ofPlayer34_1 (cy : Nat → ClassId) (h0 : Nat) (h1 : Nat) (h2 : Nat) (h3 : Nat) (h4 : Nat) (h5 : Nat) (h6 : Nat) (h7 : Nat) (h8 : Nat) (h9 : Nat) (v2 : Int32) (v3 : Int32) (v4 : Int32) (v5 : Int32) (v6 : Int32) (v7 : Int32) (v8 : Int32) (v9 : Int32) (v10 : Int32) (v11 : Int32) (g : Nat → Int32) (o : Int32) : va_W := [(h0, .inr (11, [.ref h1, .ref h2, .ref h3, .ref h4, .ref h5, .int o, .int v2, .int v3, .int v4, .int v5, .ref h6, .int v6, .ref h7, .ref h8, .ref h9, .int v7, .int v8, .int v9, .int v10, .int v11])), (h1, .inl (cy 0, 64, .inl (g)))]
set_option maxHeartbeats 4000000 in
set_option maxRecDepth 100000 in
theorem c_X9_ofPlayer34_1 (l : Launch) {E : zEn} (hE : zEok E) (D : zG) (cy : Nat → ClassId) (h0 h1 h2 h3 h4 h5 h6 h7 h8 h9 : Nat) (v1 : Int32) (v2 : Int32) (v3 : Int32) (v4 : Int32) (v5 : Int32) (v6 : Int32) (v7 : Int32) (v8 : Int32) (v9 : Int32) (v10 : Int32) (v11 : Int32) (g : Nat → Int32) (x : Int32) (hin : n_X9_in x 0 ((g 2) - 1) = 0) (sz : Nat) : Met l yX9_ofPlayer (zws yX9_ofPlayer cX9_ofPlayer 3 (some .int)) { frames := 1, cells := 0, slots := 0, locals := 22 } (zPre E D cy [.ref h0, .int x, .int 34] [(h0, .inr (11, [.ref h1, .ref h2, .ref h3, .ref h4, .ref h5, .int v1, .int v2, .int v3, .int v4, .int v5, .ref h6, .int v6, .ref h7, .ref h8, .ref h9, .int v7, .int v8, .int v9, .int v10, .int v11])), (h1, .inl (cy 0, 64, .inl (g)))] sz) (zQi D ((q_X9_ofPlayer34_1 cy h0 h1 h2 h3 h4 h5 h6 h7 h8 h9 v2 v3 v4 v5 v6 v7 v8 v9 v10 v11 g) (n_X9_ofPlayer34_1 g x)) (va_A [(h0, .inr (11, [.ref h1, .ref h2, .ref h3, .ref h4, .ref h5, .int v1, .int v2, .int v3, .int v4, .int v5, .ref h6, .int v6, .ref h7, .ref h8, .ref h9, .int v7, .int v8, .int v9, .int v10, .int v11])), (h1, .inl (cy 0, 64, .inl (g)))] sz) (0)) 0 0 (va_A [(h0, .inr (11, [.ref h1, .ref h2, .ref h3, .ref h4, .ref h5, .int v1, .int v2, .int v3, .int v4, .int v5, .ref h6, .int v6, .ref h7, .ref h8, .ref h9, .int v7, .int v8, .int v9, .int v10, .int v11])), (h1, .inl (cy 0, 64, .inl (g)))] sz) := by
  refine z_of (Qc := fun A => zQi D ((q_X9_ofPlayer34_1 cy h0 h1 h2 h3 h4 h5 h6 h7 h8 h9 v2 v3 v4 v5 v6 v7 v8 v9 v10 v11 g) (n_X9_ofPlayer34_1 g x)) A (0)) (by decide +kernel) (Nat.le_of_ble_eq_true rfl) rfl ?_
  intro pG eN sT mI below meth cO A ls C hRT hnm hA hP hD hS hE0 hl
  have hX := C.x
  have hB := C.b
  refine lv_aload_n hX hB dX9_ofPlayer_0 rfl (lv_at hl 0 rfl) ?_
  refine lv_iload_n hX hB dX9_ofPlayer_1 rfl (lv_at hl 1 rfl) ?_
  refine lv_iconst (v := 0) hX hB dX9_ofPlayer_2 (by decide) ?_
  refine lv_aload_n hX hB dX9_ofPlayer_3 rfl (lv_at hl 0 rfl) ?_
  refine fg_X9_7 C hP 0 rfl rfl dX9_ofPlayer_4 ?_
  refine lv_iconst (v := 2) hX hB dX9_ofPlayer_7 (by decide) ?_
  refine z_iald C hP 1 rfl (k := 2) (zlit 2) (by decide) (by decide) (v := g 2) rfl dX9_ofPlayer_8 ?_
  refine lv_iconst (v := 1) hX hB dX9_ofPlayer_9 (by decide) ?_
  refine z_isub (v := (g 2) - 1) C dX9_ofPlayer_10 rfl ?_
  refine z_callSi (isC := []) (isR := [0, 1]) (isO := [0, 1]) (n_X9_in x 0 ((g 2) - 1)) (q_X9_in ) (fun o_1 => [(h0, .inr (11, [.ref h1, .ref h2, .ref h3, .ref h4, .ref h5, .int v1, .int v2, .int v3, .int v4, .int v5, .ref h6, .int v6, .ref h7, .ref h8, .ref h9, .int v7, .int v8, .int v9, .int v10, .int v11])), (h1, .inl (cy 0, 64, .inl (g)))]) (fun o_1 => o_1) (c_X9_in l hE D cy  x 0 ((g 2) - 1) ) hE C zs_X9_127 ⟨Nat.le_of_ble_eq_true rfl, Nat.le_of_ble_eq_true rfl⟩ hP hD hS hA hE0 ⟨rfl, rfl, rfl, by decide, rfl, rfl, rfl⟩ rfl hl.1 (Nat.le_of_ble_eq_true rfl) rfl dX9_ofPlayer_11 ⟨Nat.le_of_ble_eq_true rfl, Nat.le_of_ble_eq_true rfl⟩ (fun o_1 H locs eo_1 hP hD hS => ?_)
  refine lv_if_eq (tgt := 21) hX hB dX9_ofPlayer_14 (by decide) (fun _ => ?_) (fun c => absurd (by rw [eo_1]; exact hin) c)
  refine lv_iconst (v := 1) hX hB dX9_ofPlayer_21 (by decide) ?_
  refine fp_X9_25 C hP hD hS 0 rfl rfl rfl (Nat.le_of_ble_eq_true rfl) (w' := [(h0, .inr (11, [.ref h1, .ref h2, .ref h3, .ref h4, .ref h5, .int 1, .int v2, .int v3, .int v4, .int v5, .ref h6, .int v6, .ref h7, .ref h8, .ref h9, .int v7, .int v8, .int v9, .int v10, .int v11])), (h1, .inl (cy 0, 64, .inl (g)))]) rfl dX9_ofPlayer_22 (fun H locs hP hD hS => ?_)
  refine lv_aload_n hX hB dX9_ofPlayer_25 rfl (lv_at hl 0 rfl) ?_
  refine fg_X9_25 C hP 0 rfl rfl dX9_ofPlayer_26 ?_
  refine lv_if_le (tgt := 36) hX hB dX9_ofPlayer_29 (by decide) (fun c => absurd c (by decide)) (fun _ => ?_)
  refine lv_iconst (v := 0) hX hB dX9_ofPlayer_32 (by decide) ?_
  refine lv_goto (tgt := 44) hX hB dX9_ofPlayer_33 (by decide) ?_
  exact z_iret' 1 (w' := q_X9_ofPlayer34_1 cy h0 h1 h2 h3 h4 h5 h6 h7 h8 h9 v2 v3 v4 v5 v6 v7 v8 v9 v10 v11 g) (r0 := (fun (o : Int32) => 0)) (by simp only [n_X9_ofPlayer34_1, ← eo_1]) C hRT hP hD hS (Nat.le_of_ble_eq_true rfl) (Nat.le_of_ble_eq_true rfl) rfl rfl dX9_ofPlayer_44

def n_X9_extraBalls_ok (g : Nat → Int32) (i : Nat) : Int32 × Int32 :=
  let o_1 := n_X9_ofPlayer34_ok g i
  (o_1.1, o_1.2)
def q_X9_extraBalls_ok (cy : Nat → ClassId) (h0 : Nat) (h1 : Nat) (h2 : Nat) (h3 : Nat) (h4 : Nat) (h5 : Nat) (h6 : Nat) (h7 : Nat) (h8 : Nat) (h9 : Nat) (v2 : Int32) (v3 : Int32) (v4 : Int32) (v5 : Int32) (v6 : Int32) (v7 : Int32) (v8 : Int32) (v9 : Int32) (v10 : Int32) (v11 : Int32) (g : Nat → Int32) (o : Int32 × Int32) : va_W := [(h0, .inr (11, [.ref h1, .ref h2, .ref h3, .ref h4, .ref h5, .int o.2, .int v2, .int v3, .int v4, .int v5, .ref h6, .int v6, .ref h7, .ref h8, .ref h9, .int v7, .int v8, .int v9, .int v10, .int v11])), (h1, .inl (cy 0, 64, .inl (g)))]
set_option maxHeartbeats 4000000 in
set_option maxRecDepth 100000 in
theorem c_X9_extraBalls_ok (l : Launch) {E : zEn} (hE : zEok E) (D : zG) (cy : Nat → ClassId) (h0 h1 h2 h3 h4 h5 h6 h7 h8 h9 : Nat) (v1 : Int32) (v2 : Int32) (v3 : Int32) (v4 : Int32) (v5 : Int32) (v6 : Int32) (v7 : Int32) (v8 : Int32) (v9 : Int32) (v10 : Int32) (v11 : Int32) (g : Nat → Int32) (x : Int32) (i : Nat) (hx : zi x i) (hi : i < zn (g 2)) (hn : zle (g 2) 4) (sz : Nat) : Met l yX9_extraBalls (zws yX9_extraBalls cX9_extraBalls 2 (some .int)) { frames := 2, cells := 0, slots := 0, locals := 44 } (zPre E D cy [.ref h0, .int x] [(h0, .inr (11, [.ref h1, .ref h2, .ref h3, .ref h4, .ref h5, .int v1, .int v2, .int v3, .int v4, .int v5, .ref h6, .int v6, .ref h7, .ref h8, .ref h9, .int v7, .int v8, .int v9, .int v10, .int v11])), (h1, .inl (cy 0, 64, .inl (g)))] sz) (zQi D ((q_X9_extraBalls_ok cy h0 h1 h2 h3 h4 h5 h6 h7 h8 h9 v2 v3 v4 v5 v6 v7 v8 v9 v10 v11 g) (n_X9_extraBalls_ok g i)) (va_A [(h0, .inr (11, [.ref h1, .ref h2, .ref h3, .ref h4, .ref h5, .int v1, .int v2, .int v3, .int v4, .int v5, .ref h6, .int v6, .ref h7, .ref h8, .ref h9, .int v7, .int v8, .int v9, .int v10, .int v11])), (h1, .inl (cy 0, 64, .inl (g)))] sz) ((n_X9_extraBalls_ok g i).1)) 0 0 (va_A [(h0, .inr (11, [.ref h1, .ref h2, .ref h3, .ref h4, .ref h5, .int v1, .int v2, .int v3, .int v4, .int v5, .ref h6, .int v6, .ref h7, .ref h8, .ref h9, .int v7, .int v8, .int v9, .int v10, .int v11])), (h1, .inl (cy 0, 64, .inl (g)))] sz) := by
  refine z_of (Qc := fun A => zQi D ((q_X9_extraBalls_ok cy h0 h1 h2 h3 h4 h5 h6 h7 h8 h9 v2 v3 v4 v5 v6 v7 v8 v9 v10 v11 g) (n_X9_extraBalls_ok g i)) A ((n_X9_extraBalls_ok g i).1)) (by decide +kernel) (Nat.le_of_ble_eq_true rfl) rfl ?_
  intro pG eN sT mI below meth cO A ls C hRT hnm hA hP hD hS hE0 hl
  have hX := C.x
  have hB := C.b
  have hn_ := hn.2
  refine lv_aload_n hX hB dX9_extraBalls_0 rfl (lv_at hl 0 rfl) ?_
  refine lv_iload_n hX hB dX9_extraBalls_1 rfl (lv_at hl 1 rfl) ?_
  refine lv_bipush (v := 34) hX hB dX9_extraBalls_2 (by decide) ?_
  refine z_callVi (isC := [0, 1]) (isR := []) (isO := [0, 1]) (n_X9_ofPlayer34_ok g i) (q_X9_ofPlayer34_ok cy h0 h1 h2 h3 h4 h5 h6 h7 h8 h9 v2 v3 v4 v5 v6 v7 v8 v9 v10 v11 g) (fun o_1 => [(h0, .inr (11, [.ref h1, .ref h2, .ref h3, .ref h4, .ref h5, .int o_1.2, .int v2, .int v3, .int v4, .int v5, .ref h6, .int v6, .ref h7, .ref h8, .ref h9, .int v7, .int v8, .int v9, .int v10, .int v11])), (h1, .inl (cy 0, 64, .inl (g)))]) (fun o_1 => o_1.1) (c_X9_ofPlayer34_ok l hE D cy h0 h1 h2 h3 h4 h5 h6 h7 h8 h9 v1 v2 v3 v4 v5 v6 v7 v8 v9 v10 v11 g x i hx (by omega) (zle_of (zi_tr rfl hn.1) (by omega) (by decide))) hE C zs_X9_171 ⟨Nat.le_of_ble_eq_true rfl, Nat.le_of_ble_eq_true rfl⟩ hP hD hS hA hE0 ⟨rfl, rfl, rfl, by decide, rfl, rfl, rfl⟩ 0 rfl rfl rfl rfl hl.1 (Nat.le_of_ble_eq_true rfl) rfl dX9_extraBalls_4 ⟨Nat.le_of_ble_eq_true rfl, Nat.le_of_ble_eq_true rfl⟩ (fun o_1 H locs eo_1 hP hD hS => ?_)
  exact z_iret' (o_1.1, o_1.2) (w' := q_X9_extraBalls_ok cy h0 h1 h2 h3 h4 h5 h6 h7 h8 h9 v2 v3 v4 v5 v6 v7 v8 v9 v10 v11 g) (r0 := (fun (o : Int32 × Int32) => o.1)) (by simp only [n_X9_extraBalls_ok, ← eo_1]) C hRT hP hD hS (Nat.le_of_ble_eq_true rfl) (Nat.le_of_ble_eq_true rfl) rfl rfl dX9_extraBalls_7

def n_X9_extraBalls_1 (g : Nat → Int32) (x : Int32) : Int32 :=
  let o_1 := n_X9_ofPlayer34_1 g x
  o_1
def q_X9_extraBalls_1 (cy : Nat → ClassId) (h0 : Nat) (h1 : Nat) (h2 : Nat) (h3 : Nat) (h4 : Nat) (h5 : Nat) (h6 : Nat) (h7 : Nat) (h8 : Nat) (h9 : Nat) (v2 : Int32) (v3 : Int32) (v4 : Int32) (v5 : Int32) (v6 : Int32) (v7 : Int32) (v8 : Int32) (v9 : Int32) (v10 : Int32) (v11 : Int32) (g : Nat → Int32) (o : Int32) : va_W := [(h0, .inr (11, [.ref h1, .ref h2, .ref h3, .ref h4, .ref h5, .int o, .int v2, .int v3, .int v4, .int v5, .ref h6, .int v6, .ref h7, .ref h8, .ref h9, .int v7, .int v8, .int v9, .int v10, .int v11])), (h1, .inl (cy 0, 64, .inl (g)))]
set_option maxHeartbeats 4000000 in
set_option maxRecDepth 100000 in
theorem c_X9_extraBalls_1 (l : Launch) {E : zEn} (hE : zEok E) (D : zG) (cy : Nat → ClassId) (h0 h1 h2 h3 h4 h5 h6 h7 h8 h9 : Nat) (v1 : Int32) (v2 : Int32) (v3 : Int32) (v4 : Int32) (v5 : Int32) (v6 : Int32) (v7 : Int32) (v8 : Int32) (v9 : Int32) (v10 : Int32) (v11 : Int32) (g : Nat → Int32) (x : Int32) (hin : n_X9_in x 0 ((g 2) - 1) = 0) (sz : Nat) : Met l yX9_extraBalls (zws yX9_extraBalls cX9_extraBalls 2 (some .int)) { frames := 2, cells := 0, slots := 0, locals := 44 } (zPre E D cy [.ref h0, .int x] [(h0, .inr (11, [.ref h1, .ref h2, .ref h3, .ref h4, .ref h5, .int v1, .int v2, .int v3, .int v4, .int v5, .ref h6, .int v6, .ref h7, .ref h8, .ref h9, .int v7, .int v8, .int v9, .int v10, .int v11])), (h1, .inl (cy 0, 64, .inl (g)))] sz) (zQi D ((q_X9_extraBalls_1 cy h0 h1 h2 h3 h4 h5 h6 h7 h8 h9 v2 v3 v4 v5 v6 v7 v8 v9 v10 v11 g) (n_X9_extraBalls_1 g x)) (va_A [(h0, .inr (11, [.ref h1, .ref h2, .ref h3, .ref h4, .ref h5, .int v1, .int v2, .int v3, .int v4, .int v5, .ref h6, .int v6, .ref h7, .ref h8, .ref h9, .int v7, .int v8, .int v9, .int v10, .int v11])), (h1, .inl (cy 0, 64, .inl (g)))] sz) (0)) 0 0 (va_A [(h0, .inr (11, [.ref h1, .ref h2, .ref h3, .ref h4, .ref h5, .int v1, .int v2, .int v3, .int v4, .int v5, .ref h6, .int v6, .ref h7, .ref h8, .ref h9, .int v7, .int v8, .int v9, .int v10, .int v11])), (h1, .inl (cy 0, 64, .inl (g)))] sz) := by
  refine z_of (Qc := fun A => zQi D ((q_X9_extraBalls_1 cy h0 h1 h2 h3 h4 h5 h6 h7 h8 h9 v2 v3 v4 v5 v6 v7 v8 v9 v10 v11 g) (n_X9_extraBalls_1 g x)) A (0)) (by decide +kernel) (Nat.le_of_ble_eq_true rfl) rfl ?_
  intro pG eN sT mI below meth cO A ls C hRT hnm hA hP hD hS hE0 hl
  have hX := C.x
  have hB := C.b
  refine lv_aload_n hX hB dX9_extraBalls_0 rfl (lv_at hl 0 rfl) ?_
  refine lv_iload_n hX hB dX9_extraBalls_1 rfl (lv_at hl 1 rfl) ?_
  refine lv_bipush (v := 34) hX hB dX9_extraBalls_2 (by decide) ?_
  refine z_callVi (isC := [0, 1]) (isR := []) (isO := [0, 1]) (n_X9_ofPlayer34_1 g x) (q_X9_ofPlayer34_1 cy h0 h1 h2 h3 h4 h5 h6 h7 h8 h9 v2 v3 v4 v5 v6 v7 v8 v9 v10 v11 g) (fun o_1 => [(h0, .inr (11, [.ref h1, .ref h2, .ref h3, .ref h4, .ref h5, .int o_1, .int v2, .int v3, .int v4, .int v5, .ref h6, .int v6, .ref h7, .ref h8, .ref h9, .int v7, .int v8, .int v9, .int v10, .int v11])), (h1, .inl (cy 0, 64, .inl (g)))]) (fun o_1 => 0) (c_X9_ofPlayer34_1 l hE D cy h0 h1 h2 h3 h4 h5 h6 h7 h8 h9 v1 v2 v3 v4 v5 v6 v7 v8 v9 v10 v11 g x hin) hE C zs_X9_171 ⟨Nat.le_of_ble_eq_true rfl, Nat.le_of_ble_eq_true rfl⟩ hP hD hS hA hE0 ⟨rfl, rfl, rfl, by decide, rfl, rfl, rfl⟩ 0 rfl rfl rfl rfl hl.1 (Nat.le_of_ble_eq_true rfl) rfl dX9_extraBalls_4 ⟨Nat.le_of_ble_eq_true rfl, Nat.le_of_ble_eq_true rfl⟩ (fun o_1 H locs eo_1 hP hD hS => ?_)
  exact z_iret' o_1 (w' := q_X9_extraBalls_1 cy h0 h1 h2 h3 h4 h5 h6 h7 h8 h9 v2 v3 v4 v5 v6 v7 v8 v9 v10 v11 g) (r0 := (fun (o : Int32) => 0)) (by simp only [n_X9_extraBalls_1, ← eo_1]) C hRT hP hD hS (Nat.le_of_ble_eq_true rfl) (Nat.le_of_ble_eq_true rfl) rfl rfl dX9_extraBalls_7

def n_X9_isAhead (g : Nat → Int32) (x : Int32) (a : Nat) (y : Int32) (b : Nat) : Int32 :=
  if g (30 + a) = g (30 + b) then
    if g (34 + b) < g (34 + a) then
      1
    else
      if g (34 + a) = g (34 + b) then
        if y ≤ x then
          0
        else
          1
      else
        0
  else
    if g (30 + a) ≤ g (30 + b) then
      0
    else
      1
def q_X9_isAhead (cy : Nat → ClassId) (h0 : Nat) (h1 : Nat) (h2 : Nat) (h3 : Nat) (h4 : Nat) (h5 : Nat) (h6 : Nat) (h7 : Nat) (h8 : Nat) (h9 : Nat) (v1 : Int32) (v2 : Int32) (v3 : Int32) (v4 : Int32) (v5 : Int32) (v6 : Int32) (v7 : Int32) (v8 : Int32) (v9 : Int32) (v10 : Int32) (v11 : Int32) (g : Nat → Int32) (o : Int32) : va_W := [(h0, .inr (11, [.ref h1, .ref h2, .ref h3, .ref h4, .ref h5, .int v1, .int v2, .int v3, .int v4, .int v5, .ref h6, .int v6, .ref h7, .ref h8, .ref h9, .int v7, .int v8, .int v9, .int v10, .int v11])), (h1, .inl (cy 0, 64, .inl (g)))]
theorem b_X9_isAhead (g : Nat → Int32) (x : Int32) (a : Nat) (y : Int32) (b : Nat) : (n_X9_isAhead g x a y b) = 0 ∨ (n_X9_isAhead g x a y b) = 1 := by
  simp only [n_X9_isAhead]
  repeat (any_goals split)
  all_goals (first | exact Or.inl rfl | exact Or.inr rfl)
set_option maxHeartbeats 4000000 in
set_option maxRecDepth 100000 in
theorem c_X9_isAhead (l : Launch) {E : zEn} (hE : zEok E) (D : zG) (cy : Nat → ClassId) (h0 h1 h2 h3 h4 h5 h6 h7 h8 h9 : Nat) (v1 : Int32) (v2 : Int32) (v3 : Int32) (v4 : Int32) (v5 : Int32) (v6 : Int32) (v7 : Int32) (v8 : Int32) (v9 : Int32) (v10 : Int32) (v11 : Int32) (g : Nat → Int32) (x : Int32) (a : Nat) (y : Int32) (b : Nat) (hx : zi x a) (hxb : a ≤ 3) (hy : zi y b) (hyb : b ≤ 3) (sz : Nat) : Met l yX9_isAhead (zws yX9_isAhead cX9_isAhead 3 (some .boolean)) { frames := 0, cells := 0, slots := 0, locals := 0 } (zPre E D cy [.ref h0, .int x, .int y] [(h0, .inr (11, [.ref h1, .ref h2, .ref h3, .ref h4, .ref h5, .int v1, .int v2, .int v3, .int v4, .int v5, .ref h6, .int v6, .ref h7, .ref h8, .ref h9, .int v7, .int v8, .int v9, .int v10, .int v11])), (h1, .inl (cy 0, 64, .inl (g)))] sz) (zQi D ((q_X9_isAhead cy h0 h1 h2 h3 h4 h5 h6 h7 h8 h9 v1 v2 v3 v4 v5 v6 v7 v8 v9 v10 v11 g) (n_X9_isAhead g x a y b)) (va_A [(h0, .inr (11, [.ref h1, .ref h2, .ref h3, .ref h4, .ref h5, .int v1, .int v2, .int v3, .int v4, .int v5, .ref h6, .int v6, .ref h7, .ref h8, .ref h9, .int v7, .int v8, .int v9, .int v10, .int v11])), (h1, .inl (cy 0, 64, .inl (g)))] sz) ((n_X9_isAhead g x a y b))) 0 0 (va_A [(h0, .inr (11, [.ref h1, .ref h2, .ref h3, .ref h4, .ref h5, .int v1, .int v2, .int v3, .int v4, .int v5, .ref h6, .int v6, .ref h7, .ref h8, .ref h9, .int v7, .int v8, .int v9, .int v10, .int v11])), (h1, .inl (cy 0, 64, .inl (g)))] sz) := by
  refine z_of (Qc := fun A => zQi D ((q_X9_isAhead cy h0 h1 h2 h3 h4 h5 h6 h7 h8 h9 v1 v2 v3 v4 v5 v6 v7 v8 v9 v10 v11 g) (n_X9_isAhead g x a y b)) A ((n_X9_isAhead g x a y b))) (by decide +kernel) (Nat.le_of_ble_eq_true rfl) rfl ?_
  intro pG eN sT mI below meth cO A ls C hRT hnm hA hP hD hS hE0 hl
  have hX := C.x
  have hB := C.b
  refine lv_aload_n hX hB dX9_isAhead_0 rfl (lv_at hl 0 rfl) ?_
  refine fg_X9_7 C hP 0 rfl rfl dX9_isAhead_1 ?_
  refine lv_bipush (v := 30) hX hB dX9_isAhead_4 (by decide) ?_
  refine lv_iload_n hX hB dX9_isAhead_6 rfl (lv_at hl 1 rfl) ?_
  refine z_iadd (v := nI (30 + a)) C dX9_isAhead_7 (zi_add (zlit 30) hx) ?_
  refine z_iald C hP 1 rfl (k := 30 + a) (zi_i (30 + a)) (by omega) (by decide) (v := g (30 + a)) rfl dX9_isAhead_8 ?_
  refine lv_aload_n hX hB dX9_isAhead_9 rfl (lv_at hl 0 rfl) ?_
  refine fg_X9_7 C hP 0 rfl rfl dX9_isAhead_10 ?_
  refine lv_bipush (v := 30) hX hB dX9_isAhead_13 (by decide) ?_
  refine lv_iload_n hX hB dX9_isAhead_15 rfl (lv_at hl 2 rfl) ?_
  refine z_iadd (v := nI (30 + b)) C dX9_isAhead_16 (zi_add (zlit 30) hy) ?_
  refine z_iald C hP 1 rfl (k := 30 + b) (zi_i (30 + b)) (by omega) (by decide) (v := g (30 + b)) rfl dX9_isAhead_17 ?_
  refine lv_icmp_eq (tgt := 48) hX hB dX9_isAhead_18 (by decide) (fun c_1 => ?_) (fun c_1 => ?_)
  · refine lv_aload_n hX hB dX9_isAhead_48 rfl (lv_at hl 0 rfl) ?_
    refine fg_X9_7 C hP 0 rfl rfl dX9_isAhead_49 ?_
    refine lv_bipush (v := 34) hX hB dX9_isAhead_52 (by decide) ?_
    refine lv_iload_n hX hB dX9_isAhead_54 rfl (lv_at hl 1 rfl) ?_
    refine z_iadd (v := nI (34 + a)) C dX9_isAhead_55 (zi_add (zlit 34) hx) ?_
    refine z_iald C hP 1 rfl (k := 34 + a) (zi_i (34 + a)) (by omega) (by decide) (v := g (34 + a)) rfl dX9_isAhead_56 ?_
    refine lv_aload_n hX hB dX9_isAhead_57 rfl (lv_at hl 0 rfl) ?_
    refine fg_X9_7 C hP 0 rfl rfl dX9_isAhead_58 ?_
    refine lv_bipush (v := 34) hX hB dX9_isAhead_61 (by decide) ?_
    refine lv_iload_n hX hB dX9_isAhead_63 rfl (lv_at hl 2 rfl) ?_
    refine z_iadd (v := nI (34 + b)) C dX9_isAhead_64 (zi_add (zlit 34) hy) ?_
    refine z_iald C hP 1 rfl (k := 34 + b) (zi_i (34 + b)) (by omega) (by decide) (v := g (34 + b)) rfl dX9_isAhead_65 ?_
    refine lv_icmp_gt (tgt := 95) hX hB dX9_isAhead_66 (by decide) (fun c_2 => ?_) (fun c_2 => ?_)
    · refine lv_iconst (v := 1) hX hB dX9_isAhead_95 (by decide) ?_
      refine lv_goto (tgt := 100) hX hB dX9_isAhead_96 (by decide) ?_
      exact z_zret' 1 (w' := q_X9_isAhead cy h0 h1 h2 h3 h4 h5 h6 h7 h8 h9 v1 v2 v3 v4 v5 v6 v7 v8 v9 v10 v11 g) (r0 := (fun (o : Int32) => o)) (by simp only [n_X9_isAhead, if_pos c_1, if_pos c_2]) C hRT (zb01 (Or.inr rfl)) hP hD hS (Nat.le_of_ble_eq_true rfl) (Nat.le_of_ble_eq_true rfl) rfl rfl dX9_isAhead_100
    · refine lv_aload_n hX hB dX9_isAhead_69 rfl (lv_at hl 0 rfl) ?_
      refine fg_X9_7 C hP 0 rfl rfl dX9_isAhead_70 ?_
      refine lv_bipush (v := 34) hX hB dX9_isAhead_73 (by decide) ?_
      refine lv_iload_n hX hB dX9_isAhead_75 rfl (lv_at hl 1 rfl) ?_
      refine z_iadd (v := nI (34 + a)) C dX9_isAhead_76 (zi_add (zlit 34) hx) ?_
      refine z_iald C hP 1 rfl (k := 34 + a) (zi_i (34 + a)) (by omega) (by decide) (v := g (34 + a)) rfl dX9_isAhead_77 ?_
      refine lv_aload_n hX hB dX9_isAhead_78 rfl (lv_at hl 0 rfl) ?_
      refine fg_X9_7 C hP 0 rfl rfl dX9_isAhead_79 ?_
      refine lv_bipush (v := 34) hX hB dX9_isAhead_82 (by decide) ?_
      refine lv_iload_n hX hB dX9_isAhead_84 rfl (lv_at hl 2 rfl) ?_
      refine z_iadd (v := nI (34 + b)) C dX9_isAhead_85 (zi_add (zlit 34) hy) ?_
      refine z_iald C hP 1 rfl (k := 34 + b) (zi_i (34 + b)) (by omega) (by decide) (v := g (34 + b)) rfl dX9_isAhead_86 ?_
      refine lv_icmp_ne (tgt := 99) hX hB dX9_isAhead_87 (by decide) (fun c_3 => ?_) (fun c_3 => ?_)
      · refine lv_iconst (v := 0) hX hB dX9_isAhead_99 (by decide) ?_
        exact z_zret' 0 (w' := q_X9_isAhead cy h0 h1 h2 h3 h4 h5 h6 h7 h8 h9 v1 v2 v3 v4 v5 v6 v7 v8 v9 v10 v11 g) (r0 := (fun (o : Int32) => o)) (by simp only [n_X9_isAhead, if_pos c_1, if_neg c_2, if_neg c_3]) C hRT (zb01 (Or.inl rfl)) hP hD hS (Nat.le_of_ble_eq_true rfl) (Nat.le_of_ble_eq_true rfl) rfl rfl dX9_isAhead_100
      · refine lv_iload_n hX hB dX9_isAhead_90 rfl (lv_at hl 1 rfl) ?_
        refine lv_iload_n hX hB dX9_isAhead_91 rfl (lv_at hl 2 rfl) ?_
        refine lv_icmp_ge (tgt := 99) hX hB dX9_isAhead_92 (by decide) (fun c_4 => ?_) (fun c_4 => ?_)
        · have c_4n : b ≤ a := (zi_le_iff hy hx (by omega) (by omega)).mp c_4
          refine lv_iconst (v := 0) hX hB dX9_isAhead_99 (by decide) ?_
          exact z_zret' 0 (w' := q_X9_isAhead cy h0 h1 h2 h3 h4 h5 h6 h7 h8 h9 v1 v2 v3 v4 v5 v6 v7 v8 v9 v10 v11 g) (r0 := (fun (o : Int32) => o)) (by simp only [n_X9_isAhead, if_pos c_1, if_neg c_2, if_pos c_3, if_pos c_4]) C hRT (zb01 (Or.inl rfl)) hP hD hS (Nat.le_of_ble_eq_true rfl) (Nat.le_of_ble_eq_true rfl) rfl rfl dX9_isAhead_100
        · have c_4n : ¬ (b ≤ a) := fun z => c_4 ((zi_le_iff hy hx (by omega) (by omega)).mpr z)
          refine lv_iconst (v := 1) hX hB dX9_isAhead_95 (by decide) ?_
          refine lv_goto (tgt := 100) hX hB dX9_isAhead_96 (by decide) ?_
          exact z_zret' 1 (w' := q_X9_isAhead cy h0 h1 h2 h3 h4 h5 h6 h7 h8 h9 v1 v2 v3 v4 v5 v6 v7 v8 v9 v10 v11 g) (r0 := (fun (o : Int32) => o)) (by simp only [n_X9_isAhead, if_pos c_1, if_neg c_2, if_pos c_3, if_neg c_4]) C hRT (zb01 (Or.inr rfl)) hP hD hS (Nat.le_of_ble_eq_true rfl) (Nat.le_of_ble_eq_true rfl) rfl rfl dX9_isAhead_100
  · refine lv_aload_n hX hB dX9_isAhead_21 rfl (lv_at hl 0 rfl) ?_
    refine fg_X9_7 C hP 0 rfl rfl dX9_isAhead_22 ?_
    refine lv_bipush (v := 30) hX hB dX9_isAhead_25 (by decide) ?_
    refine lv_iload_n hX hB dX9_isAhead_27 rfl (lv_at hl 1 rfl) ?_
    refine z_iadd (v := nI (30 + a)) C dX9_isAhead_28 (zi_add (zlit 30) hx) ?_
    refine z_iald C hP 1 rfl (k := 30 + a) (zi_i (30 + a)) (by omega) (by decide) (v := g (30 + a)) rfl dX9_isAhead_29 ?_
    refine lv_aload_n hX hB dX9_isAhead_30 rfl (lv_at hl 0 rfl) ?_
    refine fg_X9_7 C hP 0 rfl rfl dX9_isAhead_31 ?_
    refine lv_bipush (v := 30) hX hB dX9_isAhead_34 (by decide) ?_
    refine lv_iload_n hX hB dX9_isAhead_36 rfl (lv_at hl 2 rfl) ?_
    refine z_iadd (v := nI (30 + b)) C dX9_isAhead_37 (zi_add (zlit 30) hy) ?_
    refine z_iald C hP 1 rfl (k := 30 + b) (zi_i (30 + b)) (by omega) (by decide) (v := g (30 + b)) rfl dX9_isAhead_38 ?_
    refine lv_icmp_le (tgt := 46) hX hB dX9_isAhead_39 (by decide) (fun c_5 => ?_) (fun c_5 => ?_)
    · refine lv_iconst (v := 0) hX hB dX9_isAhead_46 (by decide) ?_
      exact z_zret' 0 (w' := q_X9_isAhead cy h0 h1 h2 h3 h4 h5 h6 h7 h8 h9 v1 v2 v3 v4 v5 v6 v7 v8 v9 v10 v11 g) (r0 := (fun (o : Int32) => o)) (by simp only [n_X9_isAhead, if_neg c_1, if_pos c_5]) C hRT (zb01 (Or.inl rfl)) hP hD hS (Nat.le_of_ble_eq_true rfl) (Nat.le_of_ble_eq_true rfl) rfl rfl dX9_isAhead_47
    · refine lv_iconst (v := 1) hX hB dX9_isAhead_42 (by decide) ?_
      refine lv_goto (tgt := 47) hX hB dX9_isAhead_43 (by decide) ?_
      exact z_zret' 1 (w' := q_X9_isAhead cy h0 h1 h2 h3 h4 h5 h6 h7 h8 h9 v1 v2 v3 v4 v5 v6 v7 v8 v9 v10 v11 g) (r0 := (fun (o : Int32) => o)) (by simp only [n_X9_isAhead, if_neg c_1, if_neg c_5]) C hRT (zb01 (Or.inr rfl)) hP hD hS (Nat.le_of_ble_eq_true rfl) (Nat.le_of_ble_eq_true rfl) rfl rfl dX9_isAhead_47

def n_X9_playerAtRank_L2 (g : Nat → Int32) (x : Int32) (k : Nat) (k0 : Nat → Int32 × Int32) : Nat → Int32 → Nat → Int32 × Int32
  | 0, _, _ => (0, 0)
  | n_5 + 1, x_6, q =>
    if g 2 ≤ nI q then
      if x_6 = x then
        (nI k, 0)
      else
        k0 (k + 1)
    else
      let o_10 := n_X9_isAhead g (nI q) q (nI k) k
      if o_10 = 0 then
        n_X9_playerAtRank_L2 g x k k0 n_5 (x_6 + 0) (q + 1)
      else
        n_X9_playerAtRank_L2 g x k k0 n_5 (x_6 + 1) (q + 1)
def n_X9_playerAtRank_L1 (g : Nat → Int32) (x : Int32) : Nat → Nat → Int32 × Int32
  | 0, _ => (0, 0)
  | n_1 + 1, k =>
    if g 2 ≤ nI k then
      let o_4 := n_X9_fail 1
      (0, o_4)
    else
      n_X9_playerAtRank_L2 g x k (n_X9_playerAtRank_L1 g x n_1) 5 0 0
def n_X9_playerAtRank (g : Nat → Int32) (x : Int32) : Int32 × Int32 :=
  n_X9_playerAtRank_L1 g x 5 0
def q_X9_playerAtRank (cy : Nat → ClassId) (h0 : Nat) (h1 : Nat) (h2 : Nat) (h3 : Nat) (h4 : Nat) (h5 : Nat) (h6 : Nat) (h7 : Nat) (h8 : Nat) (h9 : Nat) (v2 : Int32) (v3 : Int32) (v4 : Int32) (v5 : Int32) (v6 : Int32) (v7 : Int32) (v8 : Int32) (v9 : Int32) (v10 : Int32) (v11 : Int32) (g : Nat → Int32) (o : Int32 × Int32) : va_W := [(h0, .inr (11, [.ref h1, .ref h2, .ref h3, .ref h4, .ref h5, .int o.2, .int v2, .int v3, .int v4, .int v5, .ref h6, .int v6, .ref h7, .ref h8, .ref h9, .int v7, .int v8, .int v9, .int v10, .int v11])), (h1, .inl (cy 0, 64, .inl (g)))]
set_option maxHeartbeats 4000000 in
set_option maxRecDepth 100000 in
theorem c_X9_playerAtRank (l : Launch) {E : zEn} (hE : zEok E) (D : zG) (cy : Nat → ClassId) (h0 h1 h2 h3 h4 h5 h6 h7 h8 h9 : Nat) (v1 : Int32) (v2 : Int32) (v3 : Int32) (v4 : Int32) (v5 : Int32) (v6 : Int32) (v7 : Int32) (v8 : Int32) (v9 : Int32) (v10 : Int32) (v11 : Int32) (g : Nat → Int32) (x : Int32) (hn : zle (g 2) 4) (sz : Nat) : Met l yX9_playerAtRank (zws yX9_playerAtRank cX9_playerAtRank 5 (some .int)) { frames := 1, cells := 0, slots := 0, locals := 22 } (zPre E D cy [.ref h0, .int x] [(h0, .inr (11, [.ref h1, .ref h2, .ref h3, .ref h4, .ref h5, .int v1, .int v2, .int v3, .int v4, .int v5, .ref h6, .int v6, .ref h7, .ref h8, .ref h9, .int v7, .int v8, .int v9, .int v10, .int v11])), (h1, .inl (cy 0, 64, .inl (g)))] sz) (zQi D ((q_X9_playerAtRank cy h0 h1 h2 h3 h4 h5 h6 h7 h8 h9 v2 v3 v4 v5 v6 v7 v8 v9 v10 v11 g) (n_X9_playerAtRank g x)) (va_A [(h0, .inr (11, [.ref h1, .ref h2, .ref h3, .ref h4, .ref h5, .int v1, .int v2, .int v3, .int v4, .int v5, .ref h6, .int v6, .ref h7, .ref h8, .ref h9, .int v7, .int v8, .int v9, .int v10, .int v11])), (h1, .inl (cy 0, 64, .inl (g)))] sz) ((n_X9_playerAtRank g x).1)) 0 0 (va_A [(h0, .inr (11, [.ref h1, .ref h2, .ref h3, .ref h4, .ref h5, .int v1, .int v2, .int v3, .int v4, .int v5, .ref h6, .int v6, .ref h7, .ref h8, .ref h9, .int v7, .int v8, .int v9, .int v10, .int v11])), (h1, .inl (cy 0, 64, .inl (g)))] sz) := by
  refine z_of (Qc := fun A => zQi D ((q_X9_playerAtRank cy h0 h1 h2 h3 h4 h5 h6 h7 h8 h9 v2 v3 v4 v5 v6 v7 v8 v9 v10 v11 g) (n_X9_playerAtRank g x)) A ((n_X9_playerAtRank g x).1)) (by decide +kernel) (Nat.le_of_ble_eq_true rfl) rfl ?_
  intro pG eN sT mI below meth cO A ls C hRT hnm hA hP hD hS hE0 hl
  have hX := C.x
  have hB := C.b
  have hn_ := hn.2
  refine lv_aload_n hX hB dX9_playerAtRank_0 rfl (lv_at hl 0 rfl) ?_
  refine lv_iconst (v := 0) hX hB dX9_playerAtRank_1 (by decide) ?_
  refine fp_X9_25 C hP hD hS 0 rfl rfl rfl (Nat.le_of_ble_eq_true rfl) (w' := [(h0, .inr (11, [.ref h1, .ref h2, .ref h3, .ref h4, .ref h5, .int 0, .int v2, .int v3, .int v4, .int v5, .ref h6, .int v6, .ref h7, .ref h8, .ref h9, .int v7, .int v8, .int v9, .int v10, .int v11])), (h1, .inl (cy 0, 64, .inl (g)))]) rfl dX9_playerAtRank_2 (fun H locs hP hD hS => ?_)
  refine lv_iconst (v := 0) hX hB dX9_playerAtRank_5 (by decide) ?_
  refine lv_istore_n (lv' := [(2, .int 0), (0, .ref h0), (1, .int x)]) hX hB dX9_playerAtRank_6 rfl hl (by decide) rfl (fun ls hl => ?_)
  have loop_0 : ∀ (n_1 : Nat) (k : Nat), (k ≤ zn (g 2)) → zn (g 2) - k < n_1 → n_X9_playerAtRank_L1 g x n_1 k = n_X9_playerAtRank g x → ∀ (H : Heap) (locs : List Loc), va_P D vwCl [(h0, .inr (11, [.ref h1, .ref h2, .ref h3, .ref h4, .ref h5, .int 0, .int v2, .int v3, .int v4, .int v5, .ref h6, .int v6, .ref h7, .ref h8, .ref h9, .int v7, .int v8, .int v9, .int v10, .int v11])), (h1, .inl (cy 0, 64, .inl (g)))] H → va_D A [(h0, .inr (11, [.ref h1, .ref h2, .ref h3, .ref h4, .ref h5, .int 0, .int v2, .int v3, .int v4, .int v5, .ref h6, .int v6, .ref h7, .ref h8, .ref h9, .int v7, .int v8, .int v9, .int v10, .int v11])), (h1, .inl (cy 0, 64, .inl (g)))] → va_S A sT.heap H locs → ∀ (ls : Array Slot), lv_has ls 5 [(2, .int (nI k)), (0, .ref h0), (1, .int x)] → W pG l eN { frames := 1, cells := 0, slots := 0, locals := 22 } sT mI ([.ref h0, .int x] : List Value).toArray below meth cO H locs 0 0 (MQ below (zQi D ((q_X9_playerAtRank cy h0 h1 h2 h3 h4 h5 h6 h7 h8 h9 v2 v3 v4 v5 v6 v7 v8 v9 v10 v11 g) (n_X9_playerAtRank g x)) A ((n_X9_playerAtRank g x).1)) ([.ref h0, .int x] : List Value).toArray sT 0 0 A) (F0 mI 7 ls []) := by
    intro n_1
    induction n_1 with
    | zero =>
      intro k hb_0_0 hm_0
      exact absurd hm_0 (by omega)
    | succ n_1 ih_2 =>
      intro k hb_0_0 hm_0 hF_0 H locs hP hD hS ls hl
      refine lv_iload_n hX hB dX9_playerAtRank_7 rfl (lv_at hl 0 rfl) ?_
      refine lv_aload_n hX hB dX9_playerAtRank_8 rfl (lv_at hl 1 rfl) ?_
      refine fg_X9_7 C hP 0 rfl rfl dX9_playerAtRank_9 ?_
      refine lv_iconst (v := 2) hX hB dX9_playerAtRank_12 (by decide) ?_
      refine z_iald C hP 1 rfl (k := 2) (zlit 2) (by decide) (by decide) (v := g 2) rfl dX9_playerAtRank_13 ?_
      refine lv_icmp_ge (tgt := 70) hX hB dX9_playerAtRank_14 (by decide) (fun c_3 => ?_) (fun c_3 => ?_)
      · have c_3n : zn (g 2) ≤ k := (zi_le_iff hn.1 (zi_i k) (by omega) (by omega)).mp c_3
        refine lv_aload_n hX hB dX9_playerAtRank_70 rfl (lv_at hl 1 rfl) ?_
        refine lv_iconst (v := 1) hX hB dX9_playerAtRank_71 (by decide) ?_
        refine z_callVi (isC := [0]) (isR := [1]) (isO := [1, 0]) (n_X9_fail 1) (q_X9_fail h0 h1 h2 h3 h4 h5 h6 h7 h8 h9 v2 v3 v4 v5 v6 v7 v8 v9 v10 v11) (fun o_4 => [(h0, .inr (11, [.ref h1, .ref h2, .ref h3, .ref h4, .ref h5, .int o_4, .int v2, .int v3, .int v4, .int v5, .ref h6, .int v6, .ref h7, .ref h8, .ref h9, .int v7, .int v8, .int v9, .int v10, .int v11])), (h1, .inl (cy 0, 64, .inl (g)))]) (fun o_4 => 0) (c_X9_fail l hE D cy h0 h1 h2 h3 h4 h5 h6 h7 h8 h9 0 v2 v3 v4 v5 v6 v7 v8 v9 v10 v11 1 ) hE C zs_X9_87 ⟨Nat.le_of_ble_eq_true rfl, Nat.le_of_ble_eq_true rfl⟩ hP hD hS hA hE0 ⟨rfl, rfl, rfl, by decide, rfl, rfl, rfl⟩ 0 rfl rfl rfl rfl hl.1 (Nat.le_of_ble_eq_true rfl) rfl dX9_playerAtRank_72 ⟨Nat.le_of_ble_eq_true rfl, Nat.le_of_ble_eq_true rfl⟩ (fun o_4 H locs eo_4 hP hD hS => ?_)
        exact z_iret' (0, o_4) (w' := q_X9_playerAtRank cy h0 h1 h2 h3 h4 h5 h6 h7 h8 h9 v2 v3 v4 v5 v6 v7 v8 v9 v10 v11 g) (r0 := (fun (o : Int32 × Int32) => o.1)) (hF_0.symm.trans (by simp only [n_X9_playerAtRank_L1, if_pos c_3, ← eo_4])) C hRT hP hD hS (Nat.le_of_ble_eq_true rfl) (Nat.le_of_ble_eq_true rfl) rfl rfl dX9_playerAtRank_75
      · have c_3n : ¬ (zn (g 2) ≤ k) := fun z => c_3 ((zi_le_iff hn.1 (zi_i k) (by omega) (by omega)).mpr z)
        refine lv_iconst (v := 0) hX hB dX9_playerAtRank_17 (by decide) ?_
        refine lv_istore_n (lv' := [(3, .int 0), (2, .int (nI k)), (0, .ref h0), (1, .int x)]) hX hB dX9_playerAtRank_18 rfl hl (by decide) rfl (fun ls hl => ?_)
        refine lv_iconst (v := 0) hX hB dX9_playerAtRank_19 (by decide) ?_
        refine lv_istore (lv' := [(4, .int 0), (3, .int 0), (2, .int (nI k)), (0, .ref h0), (1, .int x)]) hX hB dX9_playerAtRank_20 hl (by decide) rfl (fun ls hl => ?_)
        have loop_1 : ∀ (n_5 : Nat) (x_6 : Int32) (q : Nat), (q ≤ zn (g 2)) → zn (g 2) - q < n_5 → n_X9_playerAtRank_L2 g x k (n_X9_playerAtRank_L1 g x n_1) n_5 x_6 q = n_X9_playerAtRank g x → ∀ (H : Heap) (locs : List Loc), va_P D vwCl [(h0, .inr (11, [.ref h1, .ref h2, .ref h3, .ref h4, .ref h5, .int 0, .int v2, .int v3, .int v4, .int v5, .ref h6, .int v6, .ref h7, .ref h8, .ref h9, .int v7, .int v8, .int v9, .int v10, .int v11])), (h1, .inl (cy 0, 64, .inl (g)))] H → va_D A [(h0, .inr (11, [.ref h1, .ref h2, .ref h3, .ref h4, .ref h5, .int 0, .int v2, .int v3, .int v4, .int v5, .ref h6, .int v6, .ref h7, .ref h8, .ref h9, .int v7, .int v8, .int v9, .int v10, .int v11])), (h1, .inl (cy 0, 64, .inl (g)))] → va_S A sT.heap H locs → ∀ (ls : Array Slot), lv_has ls 5 [(4, .int (nI q)), (3, .int x_6), (2, .int (nI k)), (0, .ref h0), (1, .int x)] → W pG l eN { frames := 1, cells := 0, slots := 0, locals := 22 } sT mI ([.ref h0, .int x] : List Value).toArray below meth cO H locs 0 0 (MQ below (zQi D ((q_X9_playerAtRank cy h0 h1 h2 h3 h4 h5 h6 h7 h8 h9 v2 v3 v4 v5 v6 v7 v8 v9 v10 v11 g) (n_X9_playerAtRank g x)) A ((n_X9_playerAtRank g x).1)) ([.ref h0, .int x] : List Value).toArray sT 0 0 A) (F0 mI 22 ls []) := by
          intro n_5
          induction n_5 with
          | zero =>
            intro x_6 q hb_1_0 hm_1
            exact absurd hm_1 (by omega)
          | succ n_5 ih_7 =>
            intro x_6 q hb_1_0 hm_1 hF_1 H locs hP hD hS ls hl
            refine lv_iload hX hB dX9_playerAtRank_22 (lv_at hl 0 rfl) ?_
            refine lv_aload_n hX hB dX9_playerAtRank_24 rfl (lv_at hl 3 rfl) ?_
            refine fg_X9_7 C hP 0 rfl rfl dX9_playerAtRank_25 ?_
            refine lv_iconst (v := 2) hX hB dX9_playerAtRank_28 (by decide) ?_
            refine z_iald C hP 1 rfl (k := 2) (zlit 2) (by decide) (by decide) (v := g 2) rfl dX9_playerAtRank_29 ?_
            refine lv_icmp_ge (tgt := 57) hX hB dX9_playerAtRank_30 (by decide) (fun c_8 => ?_) (fun c_8 => ?_)
            · have c_8n : zn (g 2) ≤ q := (zi_le_iff hn.1 (zi_i q) (by omega) (by omega)).mp c_8
              refine lv_iload_n hX hB dX9_playerAtRank_57 rfl (lv_at hl 1 rfl) ?_
              refine lv_iload_n hX hB dX9_playerAtRank_58 rfl (lv_at hl 4 rfl) ?_
              refine lv_icmp_ne (tgt := 64) hX hB dX9_playerAtRank_59 (by decide) (fun c_9 => ?_) (fun c_9 => ?_)
              · refine lv_iinc (v := nI (k + 1)) (lv' := [(2, .int (nI (k + 1))), (4, .int (nI q)), (3, .int x_6), (0, .ref h0), (1, .int x)]) hX hB dX9_playerAtRank_64 hl (k := 2) rfl (zi_add (zi_i k) (zlit 1)) (by decide) rfl (fun ls hl => ?_)
                refine lv_goto (tgt := 7) hX hB dX9_playerAtRank_67 (by decide) ?_
                exact ih_2 (k + 1) (by omega)  (by omega) (Eq.trans (by simp only [n_X9_playerAtRank_L2, if_pos c_8, if_neg c_9]) hF_1) _ _ hP hD hS ls (lv_sub hl [0, 3, 4] rfl)
              · refine lv_iload_n hX hB dX9_playerAtRank_62 rfl (lv_at hl 2 rfl) ?_
                exact z_iret' (nI k, 0) (w' := q_X9_playerAtRank cy h0 h1 h2 h3 h4 h5 h6 h7 h8 h9 v2 v3 v4 v5 v6 v7 v8 v9 v10 v11 g) (r0 := (fun (o : Int32 × Int32) => o.1)) (hF_1.symm.trans (by simp only [n_X9_playerAtRank_L2, if_pos c_8, if_pos c_9])) C hRT hP hD hS (Nat.le_of_ble_eq_true rfl) (Nat.le_of_ble_eq_true rfl) rfl rfl dX9_playerAtRank_63
            · have c_8n : ¬ (zn (g 2) ≤ q) := fun z => c_8 ((zi_le_iff hn.1 (zi_i q) (by omega) (by omega)).mpr z)
              refine lv_iload_n hX hB dX9_playerAtRank_33 rfl (lv_at hl 1 rfl) ?_
              refine lv_aload_n hX hB dX9_playerAtRank_34 rfl (lv_at hl 3 rfl) ?_
              refine lv_iload hX hB dX9_playerAtRank_35 (lv_at hl 0 rfl) ?_
              refine lv_iload_n hX hB dX9_playerAtRank_37 rfl (lv_at hl 2 rfl) ?_
              refine z_callVi (isC := [0, 1]) (isR := []) (isO := [0, 1]) (n_X9_isAhead g (nI q) q (nI k) k) (q_X9_isAhead cy h0 h1 h2 h3 h4 h5 h6 h7 h8 h9 0 v2 v3 v4 v5 v6 v7 v8 v9 v10 v11 g) (fun o_10 => [(h0, .inr (11, [.ref h1, .ref h2, .ref h3, .ref h4, .ref h5, .int 0, .int v2, .int v3, .int v4, .int v5, .ref h6, .int v6, .ref h7, .ref h8, .ref h9, .int v7, .int v8, .int v9, .int v10, .int v11])), (h1, .inl (cy 0, 64, .inl (g)))]) (fun o_10 => o_10) (c_X9_isAhead l hE D cy h0 h1 h2 h3 h4 h5 h6 h7 h8 h9 0 v2 v3 v4 v5 v6 v7 v8 v9 v10 v11 g (nI q) q (nI k) k (zi_i q) (by omega) (zi_i k) (by omega)) hE C zs_X9_174 ⟨Nat.le_of_ble_eq_true rfl, Nat.le_of_ble_eq_true rfl⟩ hP hD hS hA hE0 ⟨rfl, rfl, rfl, by decide, rfl, rfl, rfl⟩ 0 rfl rfl rfl rfl hl.1 (Nat.le_of_ble_eq_true rfl) rfl dX9_playerAtRank_38 ⟨Nat.le_of_ble_eq_true rfl, Nat.le_of_ble_eq_true rfl⟩ (fun o_10 H locs eo_10 hP hD hS => ?_)
              refine lv_if_eq (tgt := 48) hX hB dX9_playerAtRank_41 (by decide) (fun c_11 => ?_) (fun c_11 => ?_)
              · refine lv_iconst (v := 0) hX hB dX9_playerAtRank_48 (by decide) ?_
                refine z_iadd (v := x_6 + 0) C dX9_playerAtRank_49 rfl ?_
                refine lv_istore_n (lv' := [(3, .int (x_6 + 0)), (4, .int (nI q)), (2, .int (nI k)), (0, .ref h0), (1, .int x)]) hX hB dX9_playerAtRank_50 rfl hl (by decide) rfl (fun ls hl => ?_)
                refine lv_iinc (v := nI (q + 1)) (lv' := [(4, .int (nI (q + 1))), (3, .int (x_6 + 0)), (2, .int (nI k)), (0, .ref h0), (1, .int x)]) hX hB dX9_playerAtRank_51 hl (k := 1) rfl (zi_add (zi_i q) (zlit 1)) (by decide) rfl (fun ls hl => ?_)
                refine lv_goto (tgt := 22) hX hB dX9_playerAtRank_54 (by decide) ?_
                exact ih_7 (x_6 + 0) (q + 1) (by omega)  (by omega) (Eq.trans (by simp only [n_X9_playerAtRank_L2, if_neg c_8, ← eo_10, if_pos c_11]) hF_1) _ _ hP hD hS ls (lv_sub hl [0, 1, 2, 3, 4] rfl)
              · refine lv_iconst (v := 1) hX hB dX9_playerAtRank_44 (by decide) ?_
                refine lv_goto (tgt := 49) hX hB dX9_playerAtRank_45 (by decide) ?_
                refine z_iadd (v := x_6 + 1) C dX9_playerAtRank_49 rfl ?_
                refine lv_istore_n (lv' := [(3, .int (x_6 + 1)), (4, .int (nI q)), (2, .int (nI k)), (0, .ref h0), (1, .int x)]) hX hB dX9_playerAtRank_50 rfl hl (by decide) rfl (fun ls hl => ?_)
                refine lv_iinc (v := nI (q + 1)) (lv' := [(4, .int (nI (q + 1))), (3, .int (x_6 + 1)), (2, .int (nI k)), (0, .ref h0), (1, .int x)]) hX hB dX9_playerAtRank_51 hl (k := 1) rfl (zi_add (zi_i q) (zlit 1)) (by decide) rfl (fun ls hl => ?_)
                refine lv_goto (tgt := 22) hX hB dX9_playerAtRank_54 (by decide) ?_
                exact ih_7 (x_6 + 1) (q + 1) (by omega)  (by omega) (Eq.trans (by simp only [n_X9_playerAtRank_L2, if_neg c_8, ← eo_10, if_neg c_11]) hF_1) _ _ hP hD hS ls (lv_sub hl [0, 1, 2, 3, 4] rfl)
        exact loop_1 5 0 0 (by omega)  (by omega) (Eq.trans (by simp only [n_X9_playerAtRank_L1, if_neg c_3]) hF_0) _ _ hP hD hS ls hl
  exact loop_0 5 0 (by omega)  (by omega) (by simp only [n_X9_playerAtRank]) _ _ hP hD hS ls hl

def n_X9_part4_ok (g : Nat → Int32) (i : Nat) : Int32 × Int32 :=
  (g (16 + i), 0)
def q_X9_part4_ok (cy : Nat → ClassId) (h0 : Nat) (h1 : Nat) (h2 : Nat) (h3 : Nat) (h4 : Nat) (h5 : Nat) (h6 : Nat) (h7 : Nat) (h8 : Nat) (h9 : Nat) (v2 : Int32) (v3 : Int32) (v4 : Int32) (v5 : Int32) (v6 : Int32) (v7 : Int32) (v8 : Int32) (v9 : Int32) (v10 : Int32) (v11 : Int32) (g : Nat → Int32) (o : Int32 × Int32) : va_W := [(h0, .inr (11, [.ref h1, .ref h2, .ref h3, .ref h4, .ref h5, .int o.2, .int v2, .int v3, .int v4, .int v5, .ref h6, .int v6, .ref h7, .ref h8, .ref h9, .int v7, .int v8, .int v9, .int v10, .int v11])), (h1, .inl (cy 0, 64, .inl (g)))]
set_option maxHeartbeats 4000000 in
set_option maxRecDepth 100000 in
theorem c_X9_part4_ok (l : Launch) {E : zEn} (hE : zEok E) (D : zG) (cy : Nat → ClassId) (h0 h1 h2 h3 h4 h5 h6 h7 h8 h9 : Nat) (v1 : Int32) (v2 : Int32) (v3 : Int32) (v4 : Int32) (v5 : Int32) (v6 : Int32) (v7 : Int32) (v8 : Int32) (v9 : Int32) (v10 : Int32) (v11 : Int32) (g : Nat → Int32) (x : Int32) (i : Nat) (hx : zi x i) (hxb : i ≤ 3) (hr : g 0 = 1) (sz : Nat) : Met l yX9_part (zws yX9_part cX9_part 4 (some .int)) { frames := 2, cells := 0, slots := 0, locals := 44 } (zPre E D cy [.ref h0, .int x, .int 4, .int 16] [(h0, .inr (11, [.ref h1, .ref h2, .ref h3, .ref h4, .ref h5, .int v1, .int v2, .int v3, .int v4, .int v5, .ref h6, .int v6, .ref h7, .ref h8, .ref h9, .int v7, .int v8, .int v9, .int v10, .int v11])), (h1, .inl (cy 0, 64, .inl (g)))] sz) (zQi D ((q_X9_part4_ok cy h0 h1 h2 h3 h4 h5 h6 h7 h8 h9 v2 v3 v4 v5 v6 v7 v8 v9 v10 v11 g) (n_X9_part4_ok g i)) (va_A [(h0, .inr (11, [.ref h1, .ref h2, .ref h3, .ref h4, .ref h5, .int v1, .int v2, .int v3, .int v4, .int v5, .ref h6, .int v6, .ref h7, .ref h8, .ref h9, .int v7, .int v8, .int v9, .int v10, .int v11])), (h1, .inl (cy 0, 64, .inl (g)))] sz) ((n_X9_part4_ok g i).1)) 0 0 (va_A [(h0, .inr (11, [.ref h1, .ref h2, .ref h3, .ref h4, .ref h5, .int v1, .int v2, .int v3, .int v4, .int v5, .ref h6, .int v6, .ref h7, .ref h8, .ref h9, .int v7, .int v8, .int v9, .int v10, .int v11])), (h1, .inl (cy 0, 64, .inl (g)))] sz) := by
  refine z_of (Qc := fun A => zQi D ((q_X9_part4_ok cy h0 h1 h2 h3 h4 h5 h6 h7 h8 h9 v2 v3 v4 v5 v6 v7 v8 v9 v10 v11 g) (n_X9_part4_ok g i)) A ((n_X9_part4_ok g i).1)) (by decide +kernel) (Nat.le_of_ble_eq_true rfl) rfl ?_
  intro pG eN sT mI below meth cO A ls C hRT hnm hA hP hD hS hE0 hl
  have hX := C.x
  have hB := C.b
  refine lv_aload_n hX hB dX9_part_0 rfl (lv_at hl 0 rfl) ?_
  refine lv_aload_n hX hB dX9_part_1 rfl (lv_at hl 0 rfl) ?_
  refine lv_iload_n hX hB dX9_part_2 rfl (lv_at hl 1 rfl) ?_
  refine lv_iload_n hX hB dX9_part_3 rfl (lv_at hl 2 rfl) ?_
  refine z_callVi (isC := [0, 1]) (isR := []) (isO := [0, 1]) (()) (q_X9_cannotHit4_ok cy h0 h1 h2 h3 h4 h5 h6 h7 h8 h9 v1 v2 v3 v4 v5 v6 v7 v8 v9 v10 v11 g) (fun o_1 => [(h0, .inr (11, [.ref h1, .ref h2, .ref h3, .ref h4, .ref h5, .int v1, .int v2, .int v3, .int v4, .int v5, .ref h6, .int v6, .ref h7, .ref h8, .ref h9, .int v7, .int v8, .int v9, .int v10, .int v11])), (h1, .inl (cy 0, 64, .inl (g)))]) (fun o_1 => 0) (c_X9_cannotHit4_ok l hE D cy h0 h1 h2 h3 h4 h5 h6 h7 h8 h9 v1 v2 v3 v4 v5 v6 v7 v8 v9 v10 v11 g x i hx (by omega) hr) hE C zs_X9_131 ⟨Nat.le_of_ble_eq_true rfl, Nat.le_of_ble_eq_true rfl⟩ hP hD hS hA hE0 ⟨rfl, rfl, rfl, by decide, rfl, rfl, rfl⟩ 0 rfl rfl rfl rfl hl.1 (Nat.le_of_ble_eq_true rfl) rfl dX9_part_4 ⟨Nat.le_of_ble_eq_true rfl, Nat.le_of_ble_eq_true rfl⟩ (fun o_1 H locs eo_1 hP hD hS => ?_)
  refine fp_X9_25 C hP hD hS 0 rfl rfl rfl (Nat.le_of_ble_eq_true rfl) (w' := [(h0, .inr (11, [.ref h1, .ref h2, .ref h3, .ref h4, .ref h5, .int 0, .int v2, .int v3, .int v4, .int v5, .ref h6, .int v6, .ref h7, .ref h8, .ref h9, .int v7, .int v8, .int v9, .int v10, .int v11])), (h1, .inl (cy 0, 64, .inl (g)))]) rfl dX9_part_7 (fun H locs hP hD hS => ?_)
  refine lv_aload_n hX hB dX9_part_10 rfl (lv_at hl 0 rfl) ?_
  refine fg_X9_25 C hP 0 rfl rfl dX9_part_11 ?_
  refine lv_if_le (tgt := 21) hX hB dX9_part_14 (by decide) (fun _ => ?_) (fun c => absurd (by decide) c)
  refine lv_aload_n hX hB dX9_part_21 rfl (lv_at hl 0 rfl) ?_
  refine fg_X9_7 C hP 0 rfl rfl dX9_part_22 ?_
  refine lv_iload_n hX hB dX9_part_25 rfl (lv_at hl 3 rfl) ?_
  refine lv_iload_n hX hB dX9_part_26 rfl (lv_at hl 1 rfl) ?_
  refine z_iadd (v := nI (16 + i)) C dX9_part_27 (zi_add (zlit 16) hx) ?_
  refine z_iald C hP 1 rfl (k := 16 + i) (zi_i (16 + i)) (by omega) (by decide) (v := g (16 + i)) rfl dX9_part_28 ?_
  exact z_iret' (g (16 + i), 0) (w' := q_X9_part4_ok cy h0 h1 h2 h3 h4 h5 h6 h7 h8 h9 v2 v3 v4 v5 v6 v7 v8 v9 v10 v11 g) (r0 := (fun (o : Int32 × Int32) => o.1)) (by simp only [n_X9_part4_ok]) C hRT hP hD hS (Nat.le_of_ble_eq_true rfl) (Nat.le_of_ble_eq_true rfl) rfl rfl dX9_part_29

def n_X9_isLit_ok (g : Nat → Int32) (i : Nat) : Int32 × Int32 :=
  let o_1 := n_X9_part4_ok g i
  if o_1.1 = 1 then
    (1, o_1.2)
  else
    (0, o_1.2)
def q_X9_isLit_ok (cy : Nat → ClassId) (h0 : Nat) (h1 : Nat) (h2 : Nat) (h3 : Nat) (h4 : Nat) (h5 : Nat) (h6 : Nat) (h7 : Nat) (h8 : Nat) (h9 : Nat) (v2 : Int32) (v3 : Int32) (v4 : Int32) (v5 : Int32) (v6 : Int32) (v7 : Int32) (v8 : Int32) (v9 : Int32) (v10 : Int32) (v11 : Int32) (g : Nat → Int32) (o : Int32 × Int32) : va_W := [(h0, .inr (11, [.ref h1, .ref h2, .ref h3, .ref h4, .ref h5, .int o.2, .int v2, .int v3, .int v4, .int v5, .ref h6, .int v6, .ref h7, .ref h8, .ref h9, .int v7, .int v8, .int v9, .int v10, .int v11])), (h1, .inl (cy 0, 64, .inl (g)))]
set_option maxHeartbeats 4000000 in
set_option maxRecDepth 100000 in
theorem c_X9_isLit_ok (l : Launch) {E : zEn} (hE : zEok E) (D : zG) (cy : Nat → ClassId) (h0 h1 h2 h3 h4 h5 h6 h7 h8 h9 : Nat) (v1 : Int32) (v2 : Int32) (v3 : Int32) (v4 : Int32) (v5 : Int32) (v6 : Int32) (v7 : Int32) (v8 : Int32) (v9 : Int32) (v10 : Int32) (v11 : Int32) (g : Nat → Int32) (x : Int32) (i : Nat) (hx : zi x i) (hxb : i ≤ 3) (hr : g 0 = 1) (sz : Nat) : Met l yX9_isLit (zws yX9_isLit cX9_isLit 2 (some .boolean)) { frames := 3, cells := 0, slots := 0, locals := 67 } (zPre E D cy [.ref h0, .int x] [(h0, .inr (11, [.ref h1, .ref h2, .ref h3, .ref h4, .ref h5, .int v1, .int v2, .int v3, .int v4, .int v5, .ref h6, .int v6, .ref h7, .ref h8, .ref h9, .int v7, .int v8, .int v9, .int v10, .int v11])), (h1, .inl (cy 0, 64, .inl (g)))] sz) (zQi D ((q_X9_isLit_ok cy h0 h1 h2 h3 h4 h5 h6 h7 h8 h9 v2 v3 v4 v5 v6 v7 v8 v9 v10 v11 g) (n_X9_isLit_ok g i)) (va_A [(h0, .inr (11, [.ref h1, .ref h2, .ref h3, .ref h4, .ref h5, .int v1, .int v2, .int v3, .int v4, .int v5, .ref h6, .int v6, .ref h7, .ref h8, .ref h9, .int v7, .int v8, .int v9, .int v10, .int v11])), (h1, .inl (cy 0, 64, .inl (g)))] sz) ((n_X9_isLit_ok g i).1)) 0 0 (va_A [(h0, .inr (11, [.ref h1, .ref h2, .ref h3, .ref h4, .ref h5, .int v1, .int v2, .int v3, .int v4, .int v5, .ref h6, .int v6, .ref h7, .ref h8, .ref h9, .int v7, .int v8, .int v9, .int v10, .int v11])), (h1, .inl (cy 0, 64, .inl (g)))] sz) := by
  refine z_of (Qc := fun A => zQi D ((q_X9_isLit_ok cy h0 h1 h2 h3 h4 h5 h6 h7 h8 h9 v2 v3 v4 v5 v6 v7 v8 v9 v10 v11 g) (n_X9_isLit_ok g i)) A ((n_X9_isLit_ok g i).1)) (by decide +kernel) (Nat.le_of_ble_eq_true rfl) rfl ?_
  intro pG eN sT mI below meth cO A ls C hRT hnm hA hP hD hS hE0 hl
  have hX := C.x
  have hB := C.b
  refine lv_aload_n hX hB dX9_isLit_0 rfl (lv_at hl 0 rfl) ?_
  refine lv_iload_n hX hB dX9_isLit_1 rfl (lv_at hl 1 rfl) ?_
  refine lv_iconst (v := 4) hX hB dX9_isLit_2 (by decide) ?_
  refine lv_bipush (v := 16) hX hB dX9_isLit_3 (by decide) ?_
  refine z_callVi (isC := [0, 1]) (isR := []) (isO := [0, 1]) (n_X9_part4_ok g i) (q_X9_part4_ok cy h0 h1 h2 h3 h4 h5 h6 h7 h8 h9 v2 v3 v4 v5 v6 v7 v8 v9 v10 v11 g) (fun o_1 => [(h0, .inr (11, [.ref h1, .ref h2, .ref h3, .ref h4, .ref h5, .int o_1.2, .int v2, .int v3, .int v4, .int v5, .ref h6, .int v6, .ref h7, .ref h8, .ref h9, .int v7, .int v8, .int v9, .int v10, .int v11])), (h1, .inl (cy 0, 64, .inl (g)))]) (fun o_1 => o_1.1) (c_X9_part4_ok l hE D cy h0 h1 h2 h3 h4 h5 h6 h7 h8 h9 v1 v2 v3 v4 v5 v6 v7 v8 v9 v10 v11 g x i hx (by omega) hr) hE C zs_X9_177 ⟨Nat.le_of_ble_eq_true rfl, Nat.le_of_ble_eq_true rfl⟩ hP hD hS hA hE0 ⟨rfl, rfl, rfl, by decide, rfl, rfl, rfl⟩ 0 rfl rfl rfl rfl hl.1 (Nat.le_of_ble_eq_true rfl) rfl dX9_isLit_5 ⟨Nat.le_of_ble_eq_true rfl, Nat.le_of_ble_eq_true rfl⟩ (fun o_1 H locs eo_1 hP hD hS => ?_)
  refine lv_iconst (v := 1) hX hB dX9_isLit_8 (by decide) ?_
  refine lv_icmp_ne (tgt := 16) hX hB dX9_isLit_9 (by decide) (fun c_2 => ?_) (fun c_2 => ?_)
  · refine lv_iconst (v := 0) hX hB dX9_isLit_16 (by decide) ?_
    exact z_zret' (0, o_1.2) (w' := q_X9_isLit_ok cy h0 h1 h2 h3 h4 h5 h6 h7 h8 h9 v2 v3 v4 v5 v6 v7 v8 v9 v10 v11 g) (r0 := (fun (o : Int32 × Int32) => o.1)) (by simp only [n_X9_isLit_ok, ← eo_1, if_neg c_2]) C hRT (zb01 (Or.inl rfl)) hP hD hS (Nat.le_of_ble_eq_true rfl) (Nat.le_of_ble_eq_true rfl) rfl rfl dX9_isLit_17
  · refine lv_iconst (v := 1) hX hB dX9_isLit_12 (by decide) ?_
    refine lv_goto (tgt := 17) hX hB dX9_isLit_13 (by decide) ?_
    exact z_zret' (1, o_1.2) (w' := q_X9_isLit_ok cy h0 h1 h2 h3 h4 h5 h6 h7 h8 h9 v2 v3 v4 v5 v6 v7 v8 v9 v10 v11 g) (r0 := (fun (o : Int32 × Int32) => o.1)) (by simp only [n_X9_isLit_ok, ← eo_1, if_pos c_2]) C hRT (zb01 (Or.inr rfl)) hP hD hS (Nat.le_of_ble_eq_true rfl) (Nat.le_of_ble_eq_true rfl) rfl rfl dX9_isLit_17

def n_X9_part4_2  : Int32 :=
  2
def q_X9_part4_2 (cy : Nat → ClassId) (h0 : Nat) (h1 : Nat) (h2 : Nat) (h3 : Nat) (h4 : Nat) (h5 : Nat) (h6 : Nat) (h7 : Nat) (h8 : Nat) (h9 : Nat) (v2 : Int32) (v3 : Int32) (v4 : Int32) (v5 : Int32) (v6 : Int32) (v7 : Int32) (v8 : Int32) (v9 : Int32) (v10 : Int32) (v11 : Int32) (g : Nat → Int32) (o : Int32) : va_W := [(h0, .inr (11, [.ref h1, .ref h2, .ref h3, .ref h4, .ref h5, .int o, .int v2, .int v3, .int v4, .int v5, .ref h6, .int v6, .ref h7, .ref h8, .ref h9, .int v7, .int v8, .int v9, .int v10, .int v11])), (h1, .inl (cy 0, 64, .inl (g)))]
set_option maxHeartbeats 4000000 in
set_option maxRecDepth 100000 in
theorem c_X9_part4_2 (l : Launch) {E : zEn} (hE : zEok E) (D : zG) (cy : Nat → ClassId) (h0 h1 h2 h3 h4 h5 h6 h7 h8 h9 : Nat) (v1 : Int32) (v2 : Int32) (v3 : Int32) (v4 : Int32) (v5 : Int32) (v6 : Int32) (v7 : Int32) (v8 : Int32) (v9 : Int32) (v10 : Int32) (v11 : Int32) (g : Nat → Int32) (x : Int32) (i : Nat) (hx : zi x i) (hxb : i ≤ 3) (hr : ¬ g 0 = 1) (sz : Nat) : Met l yX9_part (zws yX9_part cX9_part 4 (some .int)) { frames := 2, cells := 0, slots := 0, locals := 44 } (zPre E D cy [.ref h0, .int x, .int 4, .int 16] [(h0, .inr (11, [.ref h1, .ref h2, .ref h3, .ref h4, .ref h5, .int v1, .int v2, .int v3, .int v4, .int v5, .ref h6, .int v6, .ref h7, .ref h8, .ref h9, .int v7, .int v8, .int v9, .int v10, .int v11])), (h1, .inl (cy 0, 64, .inl (g)))] sz) (zQi D ((q_X9_part4_2 cy h0 h1 h2 h3 h4 h5 h6 h7 h8 h9 v2 v3 v4 v5 v6 v7 v8 v9 v10 v11 g) n_X9_part4_2) (va_A [(h0, .inr (11, [.ref h1, .ref h2, .ref h3, .ref h4, .ref h5, .int v1, .int v2, .int v3, .int v4, .int v5, .ref h6, .int v6, .ref h7, .ref h8, .ref h9, .int v7, .int v8, .int v9, .int v10, .int v11])), (h1, .inl (cy 0, 64, .inl (g)))] sz) (0)) 0 0 (va_A [(h0, .inr (11, [.ref h1, .ref h2, .ref h3, .ref h4, .ref h5, .int v1, .int v2, .int v3, .int v4, .int v5, .ref h6, .int v6, .ref h7, .ref h8, .ref h9, .int v7, .int v8, .int v9, .int v10, .int v11])), (h1, .inl (cy 0, 64, .inl (g)))] sz) := by
  refine z_of (Qc := fun A => zQi D ((q_X9_part4_2 cy h0 h1 h2 h3 h4 h5 h6 h7 h8 h9 v2 v3 v4 v5 v6 v7 v8 v9 v10 v11 g) n_X9_part4_2) A (0)) (by decide +kernel) (Nat.le_of_ble_eq_true rfl) rfl ?_
  intro pG eN sT mI below meth cO A ls C hRT hnm hA hP hD hS hE0 hl
  have hX := C.x
  have hB := C.b
  refine lv_aload_n hX hB dX9_part_0 rfl (lv_at hl 0 rfl) ?_
  refine lv_aload_n hX hB dX9_part_1 rfl (lv_at hl 0 rfl) ?_
  refine lv_iload_n hX hB dX9_part_2 rfl (lv_at hl 1 rfl) ?_
  refine lv_iload_n hX hB dX9_part_3 rfl (lv_at hl 2 rfl) ?_
  refine z_callVi (isC := [0, 1]) (isR := []) (isO := [0, 1]) (()) (q_X9_cannotHit4_2 cy h0 h1 h2 h3 h4 h5 h6 h7 h8 h9 v1 v2 v3 v4 v5 v6 v7 v8 v9 v10 v11 g) (fun o_1 => [(h0, .inr (11, [.ref h1, .ref h2, .ref h3, .ref h4, .ref h5, .int v1, .int v2, .int v3, .int v4, .int v5, .ref h6, .int v6, .ref h7, .ref h8, .ref h9, .int v7, .int v8, .int v9, .int v10, .int v11])), (h1, .inl (cy 0, 64, .inl (g)))]) (fun o_1 => 2) (c_X9_cannotHit4_2 l hE D cy h0 h1 h2 h3 h4 h5 h6 h7 h8 h9 v1 v2 v3 v4 v5 v6 v7 v8 v9 v10 v11 g x i hx (by omega) hr) hE C zs_X9_131 ⟨Nat.le_of_ble_eq_true rfl, Nat.le_of_ble_eq_true rfl⟩ hP hD hS hA hE0 ⟨rfl, rfl, rfl, by decide, rfl, rfl, rfl⟩ 0 rfl rfl rfl rfl hl.1 (Nat.le_of_ble_eq_true rfl) rfl dX9_part_4 ⟨Nat.le_of_ble_eq_true rfl, Nat.le_of_ble_eq_true rfl⟩ (fun o_1 H locs eo_1 hP hD hS => ?_)
  refine fp_X9_25 C hP hD hS 0 rfl rfl rfl (Nat.le_of_ble_eq_true rfl) (w' := [(h0, .inr (11, [.ref h1, .ref h2, .ref h3, .ref h4, .ref h5, .int 2, .int v2, .int v3, .int v4, .int v5, .ref h6, .int v6, .ref h7, .ref h8, .ref h9, .int v7, .int v8, .int v9, .int v10, .int v11])), (h1, .inl (cy 0, 64, .inl (g)))]) rfl dX9_part_7 (fun H locs hP hD hS => ?_)
  refine lv_aload_n hX hB dX9_part_10 rfl (lv_at hl 0 rfl) ?_
  refine fg_X9_25 C hP 0 rfl rfl dX9_part_11 ?_
  refine lv_if_le (tgt := 21) hX hB dX9_part_14 (by decide) (fun c => absurd c (by decide)) (fun _ => ?_)
  refine lv_iconst (v := 0) hX hB dX9_part_17 (by decide) ?_
  refine lv_goto (tgt := 29) hX hB dX9_part_18 (by decide) ?_
  exact z_iret' 2 (w' := q_X9_part4_2 cy h0 h1 h2 h3 h4 h5 h6 h7 h8 h9 v2 v3 v4 v5 v6 v7 v8 v9 v10 v11 g) (r0 := (fun (o : Int32) => 0)) (by simp only [n_X9_part4_2]) C hRT hP hD hS (Nat.le_of_ble_eq_true rfl) (Nat.le_of_ble_eq_true rfl) rfl rfl dX9_part_29

def n_X9_isLit_2  : Int32 :=
  let o_1 := n_X9_part4_2
  o_1
def q_X9_isLit_2 (cy : Nat → ClassId) (h0 : Nat) (h1 : Nat) (h2 : Nat) (h3 : Nat) (h4 : Nat) (h5 : Nat) (h6 : Nat) (h7 : Nat) (h8 : Nat) (h9 : Nat) (v2 : Int32) (v3 : Int32) (v4 : Int32) (v5 : Int32) (v6 : Int32) (v7 : Int32) (v8 : Int32) (v9 : Int32) (v10 : Int32) (v11 : Int32) (g : Nat → Int32) (o : Int32) : va_W := [(h0, .inr (11, [.ref h1, .ref h2, .ref h3, .ref h4, .ref h5, .int o, .int v2, .int v3, .int v4, .int v5, .ref h6, .int v6, .ref h7, .ref h8, .ref h9, .int v7, .int v8, .int v9, .int v10, .int v11])), (h1, .inl (cy 0, 64, .inl (g)))]
set_option maxHeartbeats 4000000 in
set_option maxRecDepth 100000 in
theorem c_X9_isLit_2 (l : Launch) {E : zEn} (hE : zEok E) (D : zG) (cy : Nat → ClassId) (h0 h1 h2 h3 h4 h5 h6 h7 h8 h9 : Nat) (v1 : Int32) (v2 : Int32) (v3 : Int32) (v4 : Int32) (v5 : Int32) (v6 : Int32) (v7 : Int32) (v8 : Int32) (v9 : Int32) (v10 : Int32) (v11 : Int32) (g : Nat → Int32) (x : Int32) (i : Nat) (hx : zi x i) (hxb : i ≤ 3) (hr : ¬ g 0 = 1) (sz : Nat) : Met l yX9_isLit (zws yX9_isLit cX9_isLit 2 (some .boolean)) { frames := 3, cells := 0, slots := 0, locals := 67 } (zPre E D cy [.ref h0, .int x] [(h0, .inr (11, [.ref h1, .ref h2, .ref h3, .ref h4, .ref h5, .int v1, .int v2, .int v3, .int v4, .int v5, .ref h6, .int v6, .ref h7, .ref h8, .ref h9, .int v7, .int v8, .int v9, .int v10, .int v11])), (h1, .inl (cy 0, 64, .inl (g)))] sz) (zQi D ((q_X9_isLit_2 cy h0 h1 h2 h3 h4 h5 h6 h7 h8 h9 v2 v3 v4 v5 v6 v7 v8 v9 v10 v11 g) n_X9_isLit_2) (va_A [(h0, .inr (11, [.ref h1, .ref h2, .ref h3, .ref h4, .ref h5, .int v1, .int v2, .int v3, .int v4, .int v5, .ref h6, .int v6, .ref h7, .ref h8, .ref h9, .int v7, .int v8, .int v9, .int v10, .int v11])), (h1, .inl (cy 0, 64, .inl (g)))] sz) (0)) 0 0 (va_A [(h0, .inr (11, [.ref h1, .ref h2, .ref h3, .ref h4, .ref h5, .int v1, .int v2, .int v3, .int v4, .int v5, .ref h6, .int v6, .ref h7, .ref h8, .ref h9, .int v7, .int v8, .int v9, .int v10, .int v11])), (h1, .inl (cy 0, 64, .inl (g)))] sz) := by
  refine z_of (Qc := fun A => zQi D ((q_X9_isLit_2 cy h0 h1 h2 h3 h4 h5 h6 h7 h8 h9 v2 v3 v4 v5 v6 v7 v8 v9 v10 v11 g) n_X9_isLit_2) A (0)) (by decide +kernel) (Nat.le_of_ble_eq_true rfl) rfl ?_
  intro pG eN sT mI below meth cO A ls C hRT hnm hA hP hD hS hE0 hl
  have hX := C.x
  have hB := C.b
  refine lv_aload_n hX hB dX9_isLit_0 rfl (lv_at hl 0 rfl) ?_
  refine lv_iload_n hX hB dX9_isLit_1 rfl (lv_at hl 1 rfl) ?_
  refine lv_iconst (v := 4) hX hB dX9_isLit_2 (by decide) ?_
  refine lv_bipush (v := 16) hX hB dX9_isLit_3 (by decide) ?_
  refine z_callVi (isC := [0, 1]) (isR := []) (isO := [0, 1]) (n_X9_part4_2) (q_X9_part4_2 cy h0 h1 h2 h3 h4 h5 h6 h7 h8 h9 v2 v3 v4 v5 v6 v7 v8 v9 v10 v11 g) (fun o_1 => [(h0, .inr (11, [.ref h1, .ref h2, .ref h3, .ref h4, .ref h5, .int o_1, .int v2, .int v3, .int v4, .int v5, .ref h6, .int v6, .ref h7, .ref h8, .ref h9, .int v7, .int v8, .int v9, .int v10, .int v11])), (h1, .inl (cy 0, 64, .inl (g)))]) (fun o_1 => 0) (c_X9_part4_2 l hE D cy h0 h1 h2 h3 h4 h5 h6 h7 h8 h9 v1 v2 v3 v4 v5 v6 v7 v8 v9 v10 v11 g x i hx (by omega) hr) hE C zs_X9_177 ⟨Nat.le_of_ble_eq_true rfl, Nat.le_of_ble_eq_true rfl⟩ hP hD hS hA hE0 ⟨rfl, rfl, rfl, by decide, rfl, rfl, rfl⟩ 0 rfl rfl rfl rfl hl.1 (Nat.le_of_ble_eq_true rfl) rfl dX9_isLit_5 ⟨Nat.le_of_ble_eq_true rfl, Nat.le_of_ble_eq_true rfl⟩ (fun o_1 H locs eo_1 hP hD hS => ?_)
  refine lv_iconst (v := 1) hX hB dX9_isLit_8 (by decide) ?_
  refine lv_icmp_ne (tgt := 16) hX hB dX9_isLit_9 (by decide) (fun _ => ?_) (fun c => absurd c (by decide))
  refine lv_iconst (v := 0) hX hB dX9_isLit_16 (by decide) ?_
  exact z_zret' o_1 (w' := q_X9_isLit_2 cy h0 h1 h2 h3 h4 h5 h6 h7 h8 h9 v2 v3 v4 v5 v6 v7 v8 v9 v10 v11 g) (r0 := (fun (o : Int32) => 0)) (by simp only [n_X9_isLit_2, ← eo_1]) C hRT (zb01 (Or.inl rfl)) hP hD hS (Nat.le_of_ble_eq_true rfl) (Nat.le_of_ble_eq_true rfl) rfl rfl dX9_isLit_17

def n_X9_part4_1  : Int32 :=
  1
def q_X9_part4_1 (cy : Nat → ClassId) (h0 : Nat) (h1 : Nat) (h2 : Nat) (h3 : Nat) (h4 : Nat) (h5 : Nat) (h6 : Nat) (h7 : Nat) (h8 : Nat) (h9 : Nat) (v2 : Int32) (v3 : Int32) (v4 : Int32) (v5 : Int32) (v6 : Int32) (v7 : Int32) (v8 : Int32) (v9 : Int32) (v10 : Int32) (v11 : Int32) (g : Nat → Int32) (o : Int32) : va_W := [(h0, .inr (11, [.ref h1, .ref h2, .ref h3, .ref h4, .ref h5, .int o, .int v2, .int v3, .int v4, .int v5, .ref h6, .int v6, .ref h7, .ref h8, .ref h9, .int v7, .int v8, .int v9, .int v10, .int v11])), (h1, .inl (cy 0, 64, .inl (g)))]
set_option maxHeartbeats 4000000 in
set_option maxRecDepth 100000 in
theorem c_X9_part4_1 (l : Launch) {E : zEn} (hE : zEok E) (D : zG) (cy : Nat → ClassId) (h0 h1 h2 h3 h4 h5 h6 h7 h8 h9 : Nat) (v1 : Int32) (v2 : Int32) (v3 : Int32) (v4 : Int32) (v5 : Int32) (v6 : Int32) (v7 : Int32) (v8 : Int32) (v9 : Int32) (v10 : Int32) (v11 : Int32) (g : Nat → Int32) (x : Int32) (hin : n_X9_in x 0 3 = 0) (sz : Nat) : Met l yX9_part (zws yX9_part cX9_part 4 (some .int)) { frames := 2, cells := 0, slots := 0, locals := 44 } (zPre E D cy [.ref h0, .int x, .int 4, .int 16] [(h0, .inr (11, [.ref h1, .ref h2, .ref h3, .ref h4, .ref h5, .int v1, .int v2, .int v3, .int v4, .int v5, .ref h6, .int v6, .ref h7, .ref h8, .ref h9, .int v7, .int v8, .int v9, .int v10, .int v11])), (h1, .inl (cy 0, 64, .inl (g)))] sz) (zQi D ((q_X9_part4_1 cy h0 h1 h2 h3 h4 h5 h6 h7 h8 h9 v2 v3 v4 v5 v6 v7 v8 v9 v10 v11 g) n_X9_part4_1) (va_A [(h0, .inr (11, [.ref h1, .ref h2, .ref h3, .ref h4, .ref h5, .int v1, .int v2, .int v3, .int v4, .int v5, .ref h6, .int v6, .ref h7, .ref h8, .ref h9, .int v7, .int v8, .int v9, .int v10, .int v11])), (h1, .inl (cy 0, 64, .inl (g)))] sz) (0)) 0 0 (va_A [(h0, .inr (11, [.ref h1, .ref h2, .ref h3, .ref h4, .ref h5, .int v1, .int v2, .int v3, .int v4, .int v5, .ref h6, .int v6, .ref h7, .ref h8, .ref h9, .int v7, .int v8, .int v9, .int v10, .int v11])), (h1, .inl (cy 0, 64, .inl (g)))] sz) := by
  refine z_of (Qc := fun A => zQi D ((q_X9_part4_1 cy h0 h1 h2 h3 h4 h5 h6 h7 h8 h9 v2 v3 v4 v5 v6 v7 v8 v9 v10 v11 g) n_X9_part4_1) A (0)) (by decide +kernel) (Nat.le_of_ble_eq_true rfl) rfl ?_
  intro pG eN sT mI below meth cO A ls C hRT hnm hA hP hD hS hE0 hl
  have hX := C.x
  have hB := C.b
  refine lv_aload_n hX hB dX9_part_0 rfl (lv_at hl 0 rfl) ?_
  refine lv_aload_n hX hB dX9_part_1 rfl (lv_at hl 0 rfl) ?_
  refine lv_iload_n hX hB dX9_part_2 rfl (lv_at hl 1 rfl) ?_
  refine lv_iload_n hX hB dX9_part_3 rfl (lv_at hl 2 rfl) ?_
  refine z_callVi (isC := [0, 1]) (isR := []) (isO := [0, 1]) (()) (q_X9_cannotHit4_1 cy h0 h1 h2 h3 h4 h5 h6 h7 h8 h9 v1 v2 v3 v4 v5 v6 v7 v8 v9 v10 v11 g) (fun o_1 => [(h0, .inr (11, [.ref h1, .ref h2, .ref h3, .ref h4, .ref h5, .int v1, .int v2, .int v3, .int v4, .int v5, .ref h6, .int v6, .ref h7, .ref h8, .ref h9, .int v7, .int v8, .int v9, .int v10, .int v11])), (h1, .inl (cy 0, 64, .inl (g)))]) (fun o_1 => 1) (c_X9_cannotHit4_1 l hE D cy h0 h1 h2 h3 h4 h5 h6 h7 h8 h9 v1 v2 v3 v4 v5 v6 v7 v8 v9 v10 v11 g x hin) hE C zs_X9_131 ⟨Nat.le_of_ble_eq_true rfl, Nat.le_of_ble_eq_true rfl⟩ hP hD hS hA hE0 ⟨rfl, rfl, rfl, by decide, rfl, rfl, rfl⟩ 0 rfl rfl rfl rfl hl.1 (Nat.le_of_ble_eq_true rfl) rfl dX9_part_4 ⟨Nat.le_of_ble_eq_true rfl, Nat.le_of_ble_eq_true rfl⟩ (fun o_1 H locs eo_1 hP hD hS => ?_)
  refine fp_X9_25 C hP hD hS 0 rfl rfl rfl (Nat.le_of_ble_eq_true rfl) (w' := [(h0, .inr (11, [.ref h1, .ref h2, .ref h3, .ref h4, .ref h5, .int 1, .int v2, .int v3, .int v4, .int v5, .ref h6, .int v6, .ref h7, .ref h8, .ref h9, .int v7, .int v8, .int v9, .int v10, .int v11])), (h1, .inl (cy 0, 64, .inl (g)))]) rfl dX9_part_7 (fun H locs hP hD hS => ?_)
  refine lv_aload_n hX hB dX9_part_10 rfl (lv_at hl 0 rfl) ?_
  refine fg_X9_25 C hP 0 rfl rfl dX9_part_11 ?_
  refine lv_if_le (tgt := 21) hX hB dX9_part_14 (by decide) (fun c => absurd c (by decide)) (fun _ => ?_)
  refine lv_iconst (v := 0) hX hB dX9_part_17 (by decide) ?_
  refine lv_goto (tgt := 29) hX hB dX9_part_18 (by decide) ?_
  exact z_iret' 1 (w' := q_X9_part4_1 cy h0 h1 h2 h3 h4 h5 h6 h7 h8 h9 v2 v3 v4 v5 v6 v7 v8 v9 v10 v11 g) (r0 := (fun (o : Int32) => 0)) (by simp only [n_X9_part4_1]) C hRT hP hD hS (Nat.le_of_ble_eq_true rfl) (Nat.le_of_ble_eq_true rfl) rfl rfl dX9_part_29

def n_X9_isLit_1  : Int32 :=
  let o_1 := n_X9_part4_1
  o_1
def q_X9_isLit_1 (cy : Nat → ClassId) (h0 : Nat) (h1 : Nat) (h2 : Nat) (h3 : Nat) (h4 : Nat) (h5 : Nat) (h6 : Nat) (h7 : Nat) (h8 : Nat) (h9 : Nat) (v2 : Int32) (v3 : Int32) (v4 : Int32) (v5 : Int32) (v6 : Int32) (v7 : Int32) (v8 : Int32) (v9 : Int32) (v10 : Int32) (v11 : Int32) (g : Nat → Int32) (o : Int32) : va_W := [(h0, .inr (11, [.ref h1, .ref h2, .ref h3, .ref h4, .ref h5, .int o, .int v2, .int v3, .int v4, .int v5, .ref h6, .int v6, .ref h7, .ref h8, .ref h9, .int v7, .int v8, .int v9, .int v10, .int v11])), (h1, .inl (cy 0, 64, .inl (g)))]
set_option maxHeartbeats 4000000 in
set_option maxRecDepth 100000 in
theorem c_X9_isLit_1 (l : Launch) {E : zEn} (hE : zEok E) (D : zG) (cy : Nat → ClassId) (h0 h1 h2 h3 h4 h5 h6 h7 h8 h9 : Nat) (v1 : Int32) (v2 : Int32) (v3 : Int32) (v4 : Int32) (v5 : Int32) (v6 : Int32) (v7 : Int32) (v8 : Int32) (v9 : Int32) (v10 : Int32) (v11 : Int32) (g : Nat → Int32) (x : Int32) (hin : n_X9_in x 0 3 = 0) (sz : Nat) : Met l yX9_isLit (zws yX9_isLit cX9_isLit 2 (some .boolean)) { frames := 3, cells := 0, slots := 0, locals := 67 } (zPre E D cy [.ref h0, .int x] [(h0, .inr (11, [.ref h1, .ref h2, .ref h3, .ref h4, .ref h5, .int v1, .int v2, .int v3, .int v4, .int v5, .ref h6, .int v6, .ref h7, .ref h8, .ref h9, .int v7, .int v8, .int v9, .int v10, .int v11])), (h1, .inl (cy 0, 64, .inl (g)))] sz) (zQi D ((q_X9_isLit_1 cy h0 h1 h2 h3 h4 h5 h6 h7 h8 h9 v2 v3 v4 v5 v6 v7 v8 v9 v10 v11 g) n_X9_isLit_1) (va_A [(h0, .inr (11, [.ref h1, .ref h2, .ref h3, .ref h4, .ref h5, .int v1, .int v2, .int v3, .int v4, .int v5, .ref h6, .int v6, .ref h7, .ref h8, .ref h9, .int v7, .int v8, .int v9, .int v10, .int v11])), (h1, .inl (cy 0, 64, .inl (g)))] sz) (0)) 0 0 (va_A [(h0, .inr (11, [.ref h1, .ref h2, .ref h3, .ref h4, .ref h5, .int v1, .int v2, .int v3, .int v4, .int v5, .ref h6, .int v6, .ref h7, .ref h8, .ref h9, .int v7, .int v8, .int v9, .int v10, .int v11])), (h1, .inl (cy 0, 64, .inl (g)))] sz) := by
  refine z_of (Qc := fun A => zQi D ((q_X9_isLit_1 cy h0 h1 h2 h3 h4 h5 h6 h7 h8 h9 v2 v3 v4 v5 v6 v7 v8 v9 v10 v11 g) n_X9_isLit_1) A (0)) (by decide +kernel) (Nat.le_of_ble_eq_true rfl) rfl ?_
  intro pG eN sT mI below meth cO A ls C hRT hnm hA hP hD hS hE0 hl
  have hX := C.x
  have hB := C.b
  refine lv_aload_n hX hB dX9_isLit_0 rfl (lv_at hl 0 rfl) ?_
  refine lv_iload_n hX hB dX9_isLit_1 rfl (lv_at hl 1 rfl) ?_
  refine lv_iconst (v := 4) hX hB dX9_isLit_2 (by decide) ?_
  refine lv_bipush (v := 16) hX hB dX9_isLit_3 (by decide) ?_
  refine z_callVi (isC := [0, 1]) (isR := []) (isO := [0, 1]) (n_X9_part4_1) (q_X9_part4_1 cy h0 h1 h2 h3 h4 h5 h6 h7 h8 h9 v2 v3 v4 v5 v6 v7 v8 v9 v10 v11 g) (fun o_1 => [(h0, .inr (11, [.ref h1, .ref h2, .ref h3, .ref h4, .ref h5, .int o_1, .int v2, .int v3, .int v4, .int v5, .ref h6, .int v6, .ref h7, .ref h8, .ref h9, .int v7, .int v8, .int v9, .int v10, .int v11])), (h1, .inl (cy 0, 64, .inl (g)))]) (fun o_1 => 0) (c_X9_part4_1 l hE D cy h0 h1 h2 h3 h4 h5 h6 h7 h8 h9 v1 v2 v3 v4 v5 v6 v7 v8 v9 v10 v11 g x hin) hE C zs_X9_177 ⟨Nat.le_of_ble_eq_true rfl, Nat.le_of_ble_eq_true rfl⟩ hP hD hS hA hE0 ⟨rfl, rfl, rfl, by decide, rfl, rfl, rfl⟩ 0 rfl rfl rfl rfl hl.1 (Nat.le_of_ble_eq_true rfl) rfl dX9_isLit_5 ⟨Nat.le_of_ble_eq_true rfl, Nat.le_of_ble_eq_true rfl⟩ (fun o_1 H locs eo_1 hP hD hS => ?_)
  refine lv_iconst (v := 1) hX hB dX9_isLit_8 (by decide) ?_
  refine lv_icmp_ne (tgt := 16) hX hB dX9_isLit_9 (by decide) (fun _ => ?_) (fun c => absurd c (by decide))
  refine lv_iconst (v := 0) hX hB dX9_isLit_16 (by decide) ?_
  exact z_zret' o_1 (w' := q_X9_isLit_1 cy h0 h1 h2 h3 h4 h5 h6 h7 h8 h9 v2 v3 v4 v5 v6 v7 v8 v9 v10 v11 g) (r0 := (fun (o : Int32) => 0)) (by simp only [n_X9_isLit_1, ← eo_1]) C hRT (zb01 (Or.inl rfl)) hP hD hS (Nat.le_of_ble_eq_true rfl) (Nat.le_of_ble_eq_true rfl) rfl rfl dX9_isLit_17

def n_X9_part3_ok (g : Nat → Int32) (i : Nat) : Int32 × Int32 :=
  (g (20 + i), 0)
def q_X9_part3_ok (cy : Nat → ClassId) (h0 : Nat) (h1 : Nat) (h2 : Nat) (h3 : Nat) (h4 : Nat) (h5 : Nat) (h6 : Nat) (h7 : Nat) (h8 : Nat) (h9 : Nat) (v2 : Int32) (v3 : Int32) (v4 : Int32) (v5 : Int32) (v6 : Int32) (v7 : Int32) (v8 : Int32) (v9 : Int32) (v10 : Int32) (v11 : Int32) (g : Nat → Int32) (o : Int32 × Int32) : va_W := [(h0, .inr (11, [.ref h1, .ref h2, .ref h3, .ref h4, .ref h5, .int o.2, .int v2, .int v3, .int v4, .int v5, .ref h6, .int v6, .ref h7, .ref h8, .ref h9, .int v7, .int v8, .int v9, .int v10, .int v11])), (h1, .inl (cy 0, 64, .inl (g)))]
set_option maxHeartbeats 4000000 in
set_option maxRecDepth 100000 in
theorem c_X9_part3_ok (l : Launch) {E : zEn} (hE : zEok E) (D : zG) (cy : Nat → ClassId) (h0 h1 h2 h3 h4 h5 h6 h7 h8 h9 : Nat) (v1 : Int32) (v2 : Int32) (v3 : Int32) (v4 : Int32) (v5 : Int32) (v6 : Int32) (v7 : Int32) (v8 : Int32) (v9 : Int32) (v10 : Int32) (v11 : Int32) (g : Nat → Int32) (x : Int32) (i : Nat) (hx : zi x i) (hxb : i ≤ 2) (hr : g 0 = 1) (sz : Nat) : Met l yX9_part (zws yX9_part cX9_part 4 (some .int)) { frames := 2, cells := 0, slots := 0, locals := 44 } (zPre E D cy [.ref h0, .int x, .int 3, .int 20] [(h0, .inr (11, [.ref h1, .ref h2, .ref h3, .ref h4, .ref h5, .int v1, .int v2, .int v3, .int v4, .int v5, .ref h6, .int v6, .ref h7, .ref h8, .ref h9, .int v7, .int v8, .int v9, .int v10, .int v11])), (h1, .inl (cy 0, 64, .inl (g)))] sz) (zQi D ((q_X9_part3_ok cy h0 h1 h2 h3 h4 h5 h6 h7 h8 h9 v2 v3 v4 v5 v6 v7 v8 v9 v10 v11 g) (n_X9_part3_ok g i)) (va_A [(h0, .inr (11, [.ref h1, .ref h2, .ref h3, .ref h4, .ref h5, .int v1, .int v2, .int v3, .int v4, .int v5, .ref h6, .int v6, .ref h7, .ref h8, .ref h9, .int v7, .int v8, .int v9, .int v10, .int v11])), (h1, .inl (cy 0, 64, .inl (g)))] sz) ((n_X9_part3_ok g i).1)) 0 0 (va_A [(h0, .inr (11, [.ref h1, .ref h2, .ref h3, .ref h4, .ref h5, .int v1, .int v2, .int v3, .int v4, .int v5, .ref h6, .int v6, .ref h7, .ref h8, .ref h9, .int v7, .int v8, .int v9, .int v10, .int v11])), (h1, .inl (cy 0, 64, .inl (g)))] sz) := by
  refine z_of (Qc := fun A => zQi D ((q_X9_part3_ok cy h0 h1 h2 h3 h4 h5 h6 h7 h8 h9 v2 v3 v4 v5 v6 v7 v8 v9 v10 v11 g) (n_X9_part3_ok g i)) A ((n_X9_part3_ok g i).1)) (by decide +kernel) (Nat.le_of_ble_eq_true rfl) rfl ?_
  intro pG eN sT mI below meth cO A ls C hRT hnm hA hP hD hS hE0 hl
  have hX := C.x
  have hB := C.b
  refine lv_aload_n hX hB dX9_part_0 rfl (lv_at hl 0 rfl) ?_
  refine lv_aload_n hX hB dX9_part_1 rfl (lv_at hl 0 rfl) ?_
  refine lv_iload_n hX hB dX9_part_2 rfl (lv_at hl 1 rfl) ?_
  refine lv_iload_n hX hB dX9_part_3 rfl (lv_at hl 2 rfl) ?_
  refine z_callVi (isC := [0, 1]) (isR := []) (isO := [0, 1]) (()) (q_X9_cannotHit3_ok cy h0 h1 h2 h3 h4 h5 h6 h7 h8 h9 v1 v2 v3 v4 v5 v6 v7 v8 v9 v10 v11 g) (fun o_1 => [(h0, .inr (11, [.ref h1, .ref h2, .ref h3, .ref h4, .ref h5, .int v1, .int v2, .int v3, .int v4, .int v5, .ref h6, .int v6, .ref h7, .ref h8, .ref h9, .int v7, .int v8, .int v9, .int v10, .int v11])), (h1, .inl (cy 0, 64, .inl (g)))]) (fun o_1 => 0) (c_X9_cannotHit3_ok l hE D cy h0 h1 h2 h3 h4 h5 h6 h7 h8 h9 v1 v2 v3 v4 v5 v6 v7 v8 v9 v10 v11 g x i hx (by omega) hr) hE C zs_X9_131 ⟨Nat.le_of_ble_eq_true rfl, Nat.le_of_ble_eq_true rfl⟩ hP hD hS hA hE0 ⟨rfl, rfl, rfl, by decide, rfl, rfl, rfl⟩ 0 rfl rfl rfl rfl hl.1 (Nat.le_of_ble_eq_true rfl) rfl dX9_part_4 ⟨Nat.le_of_ble_eq_true rfl, Nat.le_of_ble_eq_true rfl⟩ (fun o_1 H locs eo_1 hP hD hS => ?_)
  refine fp_X9_25 C hP hD hS 0 rfl rfl rfl (Nat.le_of_ble_eq_true rfl) (w' := [(h0, .inr (11, [.ref h1, .ref h2, .ref h3, .ref h4, .ref h5, .int 0, .int v2, .int v3, .int v4, .int v5, .ref h6, .int v6, .ref h7, .ref h8, .ref h9, .int v7, .int v8, .int v9, .int v10, .int v11])), (h1, .inl (cy 0, 64, .inl (g)))]) rfl dX9_part_7 (fun H locs hP hD hS => ?_)
  refine lv_aload_n hX hB dX9_part_10 rfl (lv_at hl 0 rfl) ?_
  refine fg_X9_25 C hP 0 rfl rfl dX9_part_11 ?_
  refine lv_if_le (tgt := 21) hX hB dX9_part_14 (by decide) (fun _ => ?_) (fun c => absurd (by decide) c)
  refine lv_aload_n hX hB dX9_part_21 rfl (lv_at hl 0 rfl) ?_
  refine fg_X9_7 C hP 0 rfl rfl dX9_part_22 ?_
  refine lv_iload_n hX hB dX9_part_25 rfl (lv_at hl 3 rfl) ?_
  refine lv_iload_n hX hB dX9_part_26 rfl (lv_at hl 1 rfl) ?_
  refine z_iadd (v := nI (20 + i)) C dX9_part_27 (zi_add (zlit 20) hx) ?_
  refine z_iald C hP 1 rfl (k := 20 + i) (zi_i (20 + i)) (by omega) (by decide) (v := g (20 + i)) rfl dX9_part_28 ?_
  exact z_iret' (g (20 + i), 0) (w' := q_X9_part3_ok cy h0 h1 h2 h3 h4 h5 h6 h7 h8 h9 v2 v3 v4 v5 v6 v7 v8 v9 v10 v11 g) (r0 := (fun (o : Int32 × Int32) => o.1)) (by simp only [n_X9_part3_ok]) C hRT hP hD hS (Nat.le_of_ble_eq_true rfl) (Nat.le_of_ble_eq_true rfl) rfl rfl dX9_part_29

def n_X9_bumperValue_ok (g : Nat → Int32) (i : Nat) : Int32 × Int32 :=
  let o_1 := n_X9_part3_ok g i
  (o_1.1, o_1.2)
def q_X9_bumperValue_ok (cy : Nat → ClassId) (h0 : Nat) (h1 : Nat) (h2 : Nat) (h3 : Nat) (h4 : Nat) (h5 : Nat) (h6 : Nat) (h7 : Nat) (h8 : Nat) (h9 : Nat) (v2 : Int32) (v3 : Int32) (v4 : Int32) (v5 : Int32) (v6 : Int32) (v7 : Int32) (v8 : Int32) (v9 : Int32) (v10 : Int32) (v11 : Int32) (g : Nat → Int32) (o : Int32 × Int32) : va_W := [(h0, .inr (11, [.ref h1, .ref h2, .ref h3, .ref h4, .ref h5, .int o.2, .int v2, .int v3, .int v4, .int v5, .ref h6, .int v6, .ref h7, .ref h8, .ref h9, .int v7, .int v8, .int v9, .int v10, .int v11])), (h1, .inl (cy 0, 64, .inl (g)))]
set_option maxHeartbeats 4000000 in
set_option maxRecDepth 100000 in
theorem c_X9_bumperValue_ok (l : Launch) {E : zEn} (hE : zEok E) (D : zG) (cy : Nat → ClassId) (h0 h1 h2 h3 h4 h5 h6 h7 h8 h9 : Nat) (v1 : Int32) (v2 : Int32) (v3 : Int32) (v4 : Int32) (v5 : Int32) (v6 : Int32) (v7 : Int32) (v8 : Int32) (v9 : Int32) (v10 : Int32) (v11 : Int32) (g : Nat → Int32) (x : Int32) (i : Nat) (hx : zi x i) (hxb : i ≤ 2) (hr : g 0 = 1) (sz : Nat) : Met l yX9_bumperValue (zws yX9_bumperValue cX9_bumperValue 2 (some .int)) { frames := 3, cells := 0, slots := 0, locals := 67 } (zPre E D cy [.ref h0, .int x] [(h0, .inr (11, [.ref h1, .ref h2, .ref h3, .ref h4, .ref h5, .int v1, .int v2, .int v3, .int v4, .int v5, .ref h6, .int v6, .ref h7, .ref h8, .ref h9, .int v7, .int v8, .int v9, .int v10, .int v11])), (h1, .inl (cy 0, 64, .inl (g)))] sz) (zQi D ((q_X9_bumperValue_ok cy h0 h1 h2 h3 h4 h5 h6 h7 h8 h9 v2 v3 v4 v5 v6 v7 v8 v9 v10 v11 g) (n_X9_bumperValue_ok g i)) (va_A [(h0, .inr (11, [.ref h1, .ref h2, .ref h3, .ref h4, .ref h5, .int v1, .int v2, .int v3, .int v4, .int v5, .ref h6, .int v6, .ref h7, .ref h8, .ref h9, .int v7, .int v8, .int v9, .int v10, .int v11])), (h1, .inl (cy 0, 64, .inl (g)))] sz) ((n_X9_bumperValue_ok g i).1)) 0 0 (va_A [(h0, .inr (11, [.ref h1, .ref h2, .ref h3, .ref h4, .ref h5, .int v1, .int v2, .int v3, .int v4, .int v5, .ref h6, .int v6, .ref h7, .ref h8, .ref h9, .int v7, .int v8, .int v9, .int v10, .int v11])), (h1, .inl (cy 0, 64, .inl (g)))] sz) := by
  refine z_of (Qc := fun A => zQi D ((q_X9_bumperValue_ok cy h0 h1 h2 h3 h4 h5 h6 h7 h8 h9 v2 v3 v4 v5 v6 v7 v8 v9 v10 v11 g) (n_X9_bumperValue_ok g i)) A ((n_X9_bumperValue_ok g i).1)) (by decide +kernel) (Nat.le_of_ble_eq_true rfl) rfl ?_
  intro pG eN sT mI below meth cO A ls C hRT hnm hA hP hD hS hE0 hl
  have hX := C.x
  have hB := C.b
  refine lv_aload_n hX hB dX9_bumperValue_0 rfl (lv_at hl 0 rfl) ?_
  refine lv_iload_n hX hB dX9_bumperValue_1 rfl (lv_at hl 1 rfl) ?_
  refine lv_iconst (v := 3) hX hB dX9_bumperValue_2 (by decide) ?_
  refine lv_bipush (v := 20) hX hB dX9_bumperValue_3 (by decide) ?_
  refine z_callVi (isC := [0, 1]) (isR := []) (isO := [0, 1]) (n_X9_part3_ok g i) (q_X9_part3_ok cy h0 h1 h2 h3 h4 h5 h6 h7 h8 h9 v2 v3 v4 v5 v6 v7 v8 v9 v10 v11 g) (fun o_1 => [(h0, .inr (11, [.ref h1, .ref h2, .ref h3, .ref h4, .ref h5, .int o_1.2, .int v2, .int v3, .int v4, .int v5, .ref h6, .int v6, .ref h7, .ref h8, .ref h9, .int v7, .int v8, .int v9, .int v10, .int v11])), (h1, .inl (cy 0, 64, .inl (g)))]) (fun o_1 => o_1.1) (c_X9_part3_ok l hE D cy h0 h1 h2 h3 h4 h5 h6 h7 h8 h9 v1 v2 v3 v4 v5 v6 v7 v8 v9 v10 v11 g x i hx (by omega) hr) hE C zs_X9_177 ⟨Nat.le_of_ble_eq_true rfl, Nat.le_of_ble_eq_true rfl⟩ hP hD hS hA hE0 ⟨rfl, rfl, rfl, by decide, rfl, rfl, rfl⟩ 0 rfl rfl rfl rfl hl.1 (Nat.le_of_ble_eq_true rfl) rfl dX9_bumperValue_5 ⟨Nat.le_of_ble_eq_true rfl, Nat.le_of_ble_eq_true rfl⟩ (fun o_1 H locs eo_1 hP hD hS => ?_)
  exact z_iret' (o_1.1, o_1.2) (w' := q_X9_bumperValue_ok cy h0 h1 h2 h3 h4 h5 h6 h7 h8 h9 v2 v3 v4 v5 v6 v7 v8 v9 v10 v11 g) (r0 := (fun (o : Int32 × Int32) => o.1)) (by simp only [n_X9_bumperValue_ok, ← eo_1]) C hRT hP hD hS (Nat.le_of_ble_eq_true rfl) (Nat.le_of_ble_eq_true rfl) rfl rfl dX9_bumperValue_8

def n_X9_part3_2  : Int32 :=
  2
def q_X9_part3_2 (cy : Nat → ClassId) (h0 : Nat) (h1 : Nat) (h2 : Nat) (h3 : Nat) (h4 : Nat) (h5 : Nat) (h6 : Nat) (h7 : Nat) (h8 : Nat) (h9 : Nat) (v2 : Int32) (v3 : Int32) (v4 : Int32) (v5 : Int32) (v6 : Int32) (v7 : Int32) (v8 : Int32) (v9 : Int32) (v10 : Int32) (v11 : Int32) (g : Nat → Int32) (o : Int32) : va_W := [(h0, .inr (11, [.ref h1, .ref h2, .ref h3, .ref h4, .ref h5, .int o, .int v2, .int v3, .int v4, .int v5, .ref h6, .int v6, .ref h7, .ref h8, .ref h9, .int v7, .int v8, .int v9, .int v10, .int v11])), (h1, .inl (cy 0, 64, .inl (g)))]
set_option maxHeartbeats 4000000 in
set_option maxRecDepth 100000 in
theorem c_X9_part3_2 (l : Launch) {E : zEn} (hE : zEok E) (D : zG) (cy : Nat → ClassId) (h0 h1 h2 h3 h4 h5 h6 h7 h8 h9 : Nat) (v1 : Int32) (v2 : Int32) (v3 : Int32) (v4 : Int32) (v5 : Int32) (v6 : Int32) (v7 : Int32) (v8 : Int32) (v9 : Int32) (v10 : Int32) (v11 : Int32) (g : Nat → Int32) (x : Int32) (i : Nat) (hx : zi x i) (hxb : i ≤ 2) (hr : ¬ g 0 = 1) (sz : Nat) : Met l yX9_part (zws yX9_part cX9_part 4 (some .int)) { frames := 2, cells := 0, slots := 0, locals := 44 } (zPre E D cy [.ref h0, .int x, .int 3, .int 20] [(h0, .inr (11, [.ref h1, .ref h2, .ref h3, .ref h4, .ref h5, .int v1, .int v2, .int v3, .int v4, .int v5, .ref h6, .int v6, .ref h7, .ref h8, .ref h9, .int v7, .int v8, .int v9, .int v10, .int v11])), (h1, .inl (cy 0, 64, .inl (g)))] sz) (zQi D ((q_X9_part3_2 cy h0 h1 h2 h3 h4 h5 h6 h7 h8 h9 v2 v3 v4 v5 v6 v7 v8 v9 v10 v11 g) n_X9_part3_2) (va_A [(h0, .inr (11, [.ref h1, .ref h2, .ref h3, .ref h4, .ref h5, .int v1, .int v2, .int v3, .int v4, .int v5, .ref h6, .int v6, .ref h7, .ref h8, .ref h9, .int v7, .int v8, .int v9, .int v10, .int v11])), (h1, .inl (cy 0, 64, .inl (g)))] sz) (0)) 0 0 (va_A [(h0, .inr (11, [.ref h1, .ref h2, .ref h3, .ref h4, .ref h5, .int v1, .int v2, .int v3, .int v4, .int v5, .ref h6, .int v6, .ref h7, .ref h8, .ref h9, .int v7, .int v8, .int v9, .int v10, .int v11])), (h1, .inl (cy 0, 64, .inl (g)))] sz) := by
  refine z_of (Qc := fun A => zQi D ((q_X9_part3_2 cy h0 h1 h2 h3 h4 h5 h6 h7 h8 h9 v2 v3 v4 v5 v6 v7 v8 v9 v10 v11 g) n_X9_part3_2) A (0)) (by decide +kernel) (Nat.le_of_ble_eq_true rfl) rfl ?_
  intro pG eN sT mI below meth cO A ls C hRT hnm hA hP hD hS hE0 hl
  have hX := C.x
  have hB := C.b
  refine lv_aload_n hX hB dX9_part_0 rfl (lv_at hl 0 rfl) ?_
  refine lv_aload_n hX hB dX9_part_1 rfl (lv_at hl 0 rfl) ?_
  refine lv_iload_n hX hB dX9_part_2 rfl (lv_at hl 1 rfl) ?_
  refine lv_iload_n hX hB dX9_part_3 rfl (lv_at hl 2 rfl) ?_
  refine z_callVi (isC := [0, 1]) (isR := []) (isO := [0, 1]) (()) (q_X9_cannotHit3_2 cy h0 h1 h2 h3 h4 h5 h6 h7 h8 h9 v1 v2 v3 v4 v5 v6 v7 v8 v9 v10 v11 g) (fun o_1 => [(h0, .inr (11, [.ref h1, .ref h2, .ref h3, .ref h4, .ref h5, .int v1, .int v2, .int v3, .int v4, .int v5, .ref h6, .int v6, .ref h7, .ref h8, .ref h9, .int v7, .int v8, .int v9, .int v10, .int v11])), (h1, .inl (cy 0, 64, .inl (g)))]) (fun o_1 => 2) (c_X9_cannotHit3_2 l hE D cy h0 h1 h2 h3 h4 h5 h6 h7 h8 h9 v1 v2 v3 v4 v5 v6 v7 v8 v9 v10 v11 g x i hx (by omega) hr) hE C zs_X9_131 ⟨Nat.le_of_ble_eq_true rfl, Nat.le_of_ble_eq_true rfl⟩ hP hD hS hA hE0 ⟨rfl, rfl, rfl, by decide, rfl, rfl, rfl⟩ 0 rfl rfl rfl rfl hl.1 (Nat.le_of_ble_eq_true rfl) rfl dX9_part_4 ⟨Nat.le_of_ble_eq_true rfl, Nat.le_of_ble_eq_true rfl⟩ (fun o_1 H locs eo_1 hP hD hS => ?_)
  refine fp_X9_25 C hP hD hS 0 rfl rfl rfl (Nat.le_of_ble_eq_true rfl) (w' := [(h0, .inr (11, [.ref h1, .ref h2, .ref h3, .ref h4, .ref h5, .int 2, .int v2, .int v3, .int v4, .int v5, .ref h6, .int v6, .ref h7, .ref h8, .ref h9, .int v7, .int v8, .int v9, .int v10, .int v11])), (h1, .inl (cy 0, 64, .inl (g)))]) rfl dX9_part_7 (fun H locs hP hD hS => ?_)
  refine lv_aload_n hX hB dX9_part_10 rfl (lv_at hl 0 rfl) ?_
  refine fg_X9_25 C hP 0 rfl rfl dX9_part_11 ?_
  refine lv_if_le (tgt := 21) hX hB dX9_part_14 (by decide) (fun c => absurd c (by decide)) (fun _ => ?_)
  refine lv_iconst (v := 0) hX hB dX9_part_17 (by decide) ?_
  refine lv_goto (tgt := 29) hX hB dX9_part_18 (by decide) ?_
  exact z_iret' 2 (w' := q_X9_part3_2 cy h0 h1 h2 h3 h4 h5 h6 h7 h8 h9 v2 v3 v4 v5 v6 v7 v8 v9 v10 v11 g) (r0 := (fun (o : Int32) => 0)) (by simp only [n_X9_part3_2]) C hRT hP hD hS (Nat.le_of_ble_eq_true rfl) (Nat.le_of_ble_eq_true rfl) rfl rfl dX9_part_29

def n_X9_bumperValue_2  : Int32 :=
  let o_1 := n_X9_part3_2
  o_1
def q_X9_bumperValue_2 (cy : Nat → ClassId) (h0 : Nat) (h1 : Nat) (h2 : Nat) (h3 : Nat) (h4 : Nat) (h5 : Nat) (h6 : Nat) (h7 : Nat) (h8 : Nat) (h9 : Nat) (v2 : Int32) (v3 : Int32) (v4 : Int32) (v5 : Int32) (v6 : Int32) (v7 : Int32) (v8 : Int32) (v9 : Int32) (v10 : Int32) (v11 : Int32) (g : Nat → Int32) (o : Int32) : va_W := [(h0, .inr (11, [.ref h1, .ref h2, .ref h3, .ref h4, .ref h5, .int o, .int v2, .int v3, .int v4, .int v5, .ref h6, .int v6, .ref h7, .ref h8, .ref h9, .int v7, .int v8, .int v9, .int v10, .int v11])), (h1, .inl (cy 0, 64, .inl (g)))]
set_option maxHeartbeats 4000000 in
set_option maxRecDepth 100000 in
theorem c_X9_bumperValue_2 (l : Launch) {E : zEn} (hE : zEok E) (D : zG) (cy : Nat → ClassId) (h0 h1 h2 h3 h4 h5 h6 h7 h8 h9 : Nat) (v1 : Int32) (v2 : Int32) (v3 : Int32) (v4 : Int32) (v5 : Int32) (v6 : Int32) (v7 : Int32) (v8 : Int32) (v9 : Int32) (v10 : Int32) (v11 : Int32) (g : Nat → Int32) (x : Int32) (i : Nat) (hx : zi x i) (hxb : i ≤ 2) (hr : ¬ g 0 = 1) (sz : Nat) : Met l yX9_bumperValue (zws yX9_bumperValue cX9_bumperValue 2 (some .int)) { frames := 3, cells := 0, slots := 0, locals := 67 } (zPre E D cy [.ref h0, .int x] [(h0, .inr (11, [.ref h1, .ref h2, .ref h3, .ref h4, .ref h5, .int v1, .int v2, .int v3, .int v4, .int v5, .ref h6, .int v6, .ref h7, .ref h8, .ref h9, .int v7, .int v8, .int v9, .int v10, .int v11])), (h1, .inl (cy 0, 64, .inl (g)))] sz) (zQi D ((q_X9_bumperValue_2 cy h0 h1 h2 h3 h4 h5 h6 h7 h8 h9 v2 v3 v4 v5 v6 v7 v8 v9 v10 v11 g) n_X9_bumperValue_2) (va_A [(h0, .inr (11, [.ref h1, .ref h2, .ref h3, .ref h4, .ref h5, .int v1, .int v2, .int v3, .int v4, .int v5, .ref h6, .int v6, .ref h7, .ref h8, .ref h9, .int v7, .int v8, .int v9, .int v10, .int v11])), (h1, .inl (cy 0, 64, .inl (g)))] sz) (0)) 0 0 (va_A [(h0, .inr (11, [.ref h1, .ref h2, .ref h3, .ref h4, .ref h5, .int v1, .int v2, .int v3, .int v4, .int v5, .ref h6, .int v6, .ref h7, .ref h8, .ref h9, .int v7, .int v8, .int v9, .int v10, .int v11])), (h1, .inl (cy 0, 64, .inl (g)))] sz) := by
  refine z_of (Qc := fun A => zQi D ((q_X9_bumperValue_2 cy h0 h1 h2 h3 h4 h5 h6 h7 h8 h9 v2 v3 v4 v5 v6 v7 v8 v9 v10 v11 g) n_X9_bumperValue_2) A (0)) (by decide +kernel) (Nat.le_of_ble_eq_true rfl) rfl ?_
  intro pG eN sT mI below meth cO A ls C hRT hnm hA hP hD hS hE0 hl
  have hX := C.x
  have hB := C.b
  refine lv_aload_n hX hB dX9_bumperValue_0 rfl (lv_at hl 0 rfl) ?_
  refine lv_iload_n hX hB dX9_bumperValue_1 rfl (lv_at hl 1 rfl) ?_
  refine lv_iconst (v := 3) hX hB dX9_bumperValue_2 (by decide) ?_
  refine lv_bipush (v := 20) hX hB dX9_bumperValue_3 (by decide) ?_
  refine z_callVi (isC := [0, 1]) (isR := []) (isO := [0, 1]) (n_X9_part3_2) (q_X9_part3_2 cy h0 h1 h2 h3 h4 h5 h6 h7 h8 h9 v2 v3 v4 v5 v6 v7 v8 v9 v10 v11 g) (fun o_1 => [(h0, .inr (11, [.ref h1, .ref h2, .ref h3, .ref h4, .ref h5, .int o_1, .int v2, .int v3, .int v4, .int v5, .ref h6, .int v6, .ref h7, .ref h8, .ref h9, .int v7, .int v8, .int v9, .int v10, .int v11])), (h1, .inl (cy 0, 64, .inl (g)))]) (fun o_1 => 0) (c_X9_part3_2 l hE D cy h0 h1 h2 h3 h4 h5 h6 h7 h8 h9 v1 v2 v3 v4 v5 v6 v7 v8 v9 v10 v11 g x i hx (by omega) hr) hE C zs_X9_177 ⟨Nat.le_of_ble_eq_true rfl, Nat.le_of_ble_eq_true rfl⟩ hP hD hS hA hE0 ⟨rfl, rfl, rfl, by decide, rfl, rfl, rfl⟩ 0 rfl rfl rfl rfl hl.1 (Nat.le_of_ble_eq_true rfl) rfl dX9_bumperValue_5 ⟨Nat.le_of_ble_eq_true rfl, Nat.le_of_ble_eq_true rfl⟩ (fun o_1 H locs eo_1 hP hD hS => ?_)
  exact z_iret' o_1 (w' := q_X9_bumperValue_2 cy h0 h1 h2 h3 h4 h5 h6 h7 h8 h9 v2 v3 v4 v5 v6 v7 v8 v9 v10 v11 g) (r0 := (fun (o : Int32) => 0)) (by simp only [n_X9_bumperValue_2, ← eo_1]) C hRT hP hD hS (Nat.le_of_ble_eq_true rfl) (Nat.le_of_ble_eq_true rfl) rfl rfl dX9_bumperValue_8

def n_X9_part3_1  : Int32 :=
  1
def q_X9_part3_1 (cy : Nat → ClassId) (h0 : Nat) (h1 : Nat) (h2 : Nat) (h3 : Nat) (h4 : Nat) (h5 : Nat) (h6 : Nat) (h7 : Nat) (h8 : Nat) (h9 : Nat) (v2 : Int32) (v3 : Int32) (v4 : Int32) (v5 : Int32) (v6 : Int32) (v7 : Int32) (v8 : Int32) (v9 : Int32) (v10 : Int32) (v11 : Int32) (g : Nat → Int32) (o : Int32) : va_W := [(h0, .inr (11, [.ref h1, .ref h2, .ref h3, .ref h4, .ref h5, .int o, .int v2, .int v3, .int v4, .int v5, .ref h6, .int v6, .ref h7, .ref h8, .ref h9, .int v7, .int v8, .int v9, .int v10, .int v11])), (h1, .inl (cy 0, 64, .inl (g)))]
set_option maxHeartbeats 4000000 in
set_option maxRecDepth 100000 in
theorem c_X9_part3_1 (l : Launch) {E : zEn} (hE : zEok E) (D : zG) (cy : Nat → ClassId) (h0 h1 h2 h3 h4 h5 h6 h7 h8 h9 : Nat) (v1 : Int32) (v2 : Int32) (v3 : Int32) (v4 : Int32) (v5 : Int32) (v6 : Int32) (v7 : Int32) (v8 : Int32) (v9 : Int32) (v10 : Int32) (v11 : Int32) (g : Nat → Int32) (x : Int32) (hin : n_X9_in x 0 2 = 0) (sz : Nat) : Met l yX9_part (zws yX9_part cX9_part 4 (some .int)) { frames := 2, cells := 0, slots := 0, locals := 44 } (zPre E D cy [.ref h0, .int x, .int 3, .int 20] [(h0, .inr (11, [.ref h1, .ref h2, .ref h3, .ref h4, .ref h5, .int v1, .int v2, .int v3, .int v4, .int v5, .ref h6, .int v6, .ref h7, .ref h8, .ref h9, .int v7, .int v8, .int v9, .int v10, .int v11])), (h1, .inl (cy 0, 64, .inl (g)))] sz) (zQi D ((q_X9_part3_1 cy h0 h1 h2 h3 h4 h5 h6 h7 h8 h9 v2 v3 v4 v5 v6 v7 v8 v9 v10 v11 g) n_X9_part3_1) (va_A [(h0, .inr (11, [.ref h1, .ref h2, .ref h3, .ref h4, .ref h5, .int v1, .int v2, .int v3, .int v4, .int v5, .ref h6, .int v6, .ref h7, .ref h8, .ref h9, .int v7, .int v8, .int v9, .int v10, .int v11])), (h1, .inl (cy 0, 64, .inl (g)))] sz) (0)) 0 0 (va_A [(h0, .inr (11, [.ref h1, .ref h2, .ref h3, .ref h4, .ref h5, .int v1, .int v2, .int v3, .int v4, .int v5, .ref h6, .int v6, .ref h7, .ref h8, .ref h9, .int v7, .int v8, .int v9, .int v10, .int v11])), (h1, .inl (cy 0, 64, .inl (g)))] sz) := by
  refine z_of (Qc := fun A => zQi D ((q_X9_part3_1 cy h0 h1 h2 h3 h4 h5 h6 h7 h8 h9 v2 v3 v4 v5 v6 v7 v8 v9 v10 v11 g) n_X9_part3_1) A (0)) (by decide +kernel) (Nat.le_of_ble_eq_true rfl) rfl ?_
  intro pG eN sT mI below meth cO A ls C hRT hnm hA hP hD hS hE0 hl
  have hX := C.x
  have hB := C.b
  refine lv_aload_n hX hB dX9_part_0 rfl (lv_at hl 0 rfl) ?_
  refine lv_aload_n hX hB dX9_part_1 rfl (lv_at hl 0 rfl) ?_
  refine lv_iload_n hX hB dX9_part_2 rfl (lv_at hl 1 rfl) ?_
  refine lv_iload_n hX hB dX9_part_3 rfl (lv_at hl 2 rfl) ?_
  refine z_callVi (isC := [0, 1]) (isR := []) (isO := [0, 1]) (()) (q_X9_cannotHit3_1 cy h0 h1 h2 h3 h4 h5 h6 h7 h8 h9 v1 v2 v3 v4 v5 v6 v7 v8 v9 v10 v11 g) (fun o_1 => [(h0, .inr (11, [.ref h1, .ref h2, .ref h3, .ref h4, .ref h5, .int v1, .int v2, .int v3, .int v4, .int v5, .ref h6, .int v6, .ref h7, .ref h8, .ref h9, .int v7, .int v8, .int v9, .int v10, .int v11])), (h1, .inl (cy 0, 64, .inl (g)))]) (fun o_1 => 1) (c_X9_cannotHit3_1 l hE D cy h0 h1 h2 h3 h4 h5 h6 h7 h8 h9 v1 v2 v3 v4 v5 v6 v7 v8 v9 v10 v11 g x hin) hE C zs_X9_131 ⟨Nat.le_of_ble_eq_true rfl, Nat.le_of_ble_eq_true rfl⟩ hP hD hS hA hE0 ⟨rfl, rfl, rfl, by decide, rfl, rfl, rfl⟩ 0 rfl rfl rfl rfl hl.1 (Nat.le_of_ble_eq_true rfl) rfl dX9_part_4 ⟨Nat.le_of_ble_eq_true rfl, Nat.le_of_ble_eq_true rfl⟩ (fun o_1 H locs eo_1 hP hD hS => ?_)
  refine fp_X9_25 C hP hD hS 0 rfl rfl rfl (Nat.le_of_ble_eq_true rfl) (w' := [(h0, .inr (11, [.ref h1, .ref h2, .ref h3, .ref h4, .ref h5, .int 1, .int v2, .int v3, .int v4, .int v5, .ref h6, .int v6, .ref h7, .ref h8, .ref h9, .int v7, .int v8, .int v9, .int v10, .int v11])), (h1, .inl (cy 0, 64, .inl (g)))]) rfl dX9_part_7 (fun H locs hP hD hS => ?_)
  refine lv_aload_n hX hB dX9_part_10 rfl (lv_at hl 0 rfl) ?_
  refine fg_X9_25 C hP 0 rfl rfl dX9_part_11 ?_
  refine lv_if_le (tgt := 21) hX hB dX9_part_14 (by decide) (fun c => absurd c (by decide)) (fun _ => ?_)
  refine lv_iconst (v := 0) hX hB dX9_part_17 (by decide) ?_
  refine lv_goto (tgt := 29) hX hB dX9_part_18 (by decide) ?_
  exact z_iret' 1 (w' := q_X9_part3_1 cy h0 h1 h2 h3 h4 h5 h6 h7 h8 h9 v2 v3 v4 v5 v6 v7 v8 v9 v10 v11 g) (r0 := (fun (o : Int32) => 0)) (by simp only [n_X9_part3_1]) C hRT hP hD hS (Nat.le_of_ble_eq_true rfl) (Nat.le_of_ble_eq_true rfl) rfl rfl dX9_part_29

def n_X9_bumperValue_1  : Int32 :=
  let o_1 := n_X9_part3_1
  o_1
def q_X9_bumperValue_1 (cy : Nat → ClassId) (h0 : Nat) (h1 : Nat) (h2 : Nat) (h3 : Nat) (h4 : Nat) (h5 : Nat) (h6 : Nat) (h7 : Nat) (h8 : Nat) (h9 : Nat) (v2 : Int32) (v3 : Int32) (v4 : Int32) (v5 : Int32) (v6 : Int32) (v7 : Int32) (v8 : Int32) (v9 : Int32) (v10 : Int32) (v11 : Int32) (g : Nat → Int32) (o : Int32) : va_W := [(h0, .inr (11, [.ref h1, .ref h2, .ref h3, .ref h4, .ref h5, .int o, .int v2, .int v3, .int v4, .int v5, .ref h6, .int v6, .ref h7, .ref h8, .ref h9, .int v7, .int v8, .int v9, .int v10, .int v11])), (h1, .inl (cy 0, 64, .inl (g)))]
set_option maxHeartbeats 4000000 in
set_option maxRecDepth 100000 in
theorem c_X9_bumperValue_1 (l : Launch) {E : zEn} (hE : zEok E) (D : zG) (cy : Nat → ClassId) (h0 h1 h2 h3 h4 h5 h6 h7 h8 h9 : Nat) (v1 : Int32) (v2 : Int32) (v3 : Int32) (v4 : Int32) (v5 : Int32) (v6 : Int32) (v7 : Int32) (v8 : Int32) (v9 : Int32) (v10 : Int32) (v11 : Int32) (g : Nat → Int32) (x : Int32) (hin : n_X9_in x 0 2 = 0) (sz : Nat) : Met l yX9_bumperValue (zws yX9_bumperValue cX9_bumperValue 2 (some .int)) { frames := 3, cells := 0, slots := 0, locals := 67 } (zPre E D cy [.ref h0, .int x] [(h0, .inr (11, [.ref h1, .ref h2, .ref h3, .ref h4, .ref h5, .int v1, .int v2, .int v3, .int v4, .int v5, .ref h6, .int v6, .ref h7, .ref h8, .ref h9, .int v7, .int v8, .int v9, .int v10, .int v11])), (h1, .inl (cy 0, 64, .inl (g)))] sz) (zQi D ((q_X9_bumperValue_1 cy h0 h1 h2 h3 h4 h5 h6 h7 h8 h9 v2 v3 v4 v5 v6 v7 v8 v9 v10 v11 g) n_X9_bumperValue_1) (va_A [(h0, .inr (11, [.ref h1, .ref h2, .ref h3, .ref h4, .ref h5, .int v1, .int v2, .int v3, .int v4, .int v5, .ref h6, .int v6, .ref h7, .ref h8, .ref h9, .int v7, .int v8, .int v9, .int v10, .int v11])), (h1, .inl (cy 0, 64, .inl (g)))] sz) (0)) 0 0 (va_A [(h0, .inr (11, [.ref h1, .ref h2, .ref h3, .ref h4, .ref h5, .int v1, .int v2, .int v3, .int v4, .int v5, .ref h6, .int v6, .ref h7, .ref h8, .ref h9, .int v7, .int v8, .int v9, .int v10, .int v11])), (h1, .inl (cy 0, 64, .inl (g)))] sz) := by
  refine z_of (Qc := fun A => zQi D ((q_X9_bumperValue_1 cy h0 h1 h2 h3 h4 h5 h6 h7 h8 h9 v2 v3 v4 v5 v6 v7 v8 v9 v10 v11 g) n_X9_bumperValue_1) A (0)) (by decide +kernel) (Nat.le_of_ble_eq_true rfl) rfl ?_
  intro pG eN sT mI below meth cO A ls C hRT hnm hA hP hD hS hE0 hl
  have hX := C.x
  have hB := C.b
  refine lv_aload_n hX hB dX9_bumperValue_0 rfl (lv_at hl 0 rfl) ?_
  refine lv_iload_n hX hB dX9_bumperValue_1 rfl (lv_at hl 1 rfl) ?_
  refine lv_iconst (v := 3) hX hB dX9_bumperValue_2 (by decide) ?_
  refine lv_bipush (v := 20) hX hB dX9_bumperValue_3 (by decide) ?_
  refine z_callVi (isC := [0, 1]) (isR := []) (isO := [0, 1]) (n_X9_part3_1) (q_X9_part3_1 cy h0 h1 h2 h3 h4 h5 h6 h7 h8 h9 v2 v3 v4 v5 v6 v7 v8 v9 v10 v11 g) (fun o_1 => [(h0, .inr (11, [.ref h1, .ref h2, .ref h3, .ref h4, .ref h5, .int o_1, .int v2, .int v3, .int v4, .int v5, .ref h6, .int v6, .ref h7, .ref h8, .ref h9, .int v7, .int v8, .int v9, .int v10, .int v11])), (h1, .inl (cy 0, 64, .inl (g)))]) (fun o_1 => 0) (c_X9_part3_1 l hE D cy h0 h1 h2 h3 h4 h5 h6 h7 h8 h9 v1 v2 v3 v4 v5 v6 v7 v8 v9 v10 v11 g x hin) hE C zs_X9_177 ⟨Nat.le_of_ble_eq_true rfl, Nat.le_of_ble_eq_true rfl⟩ hP hD hS hA hE0 ⟨rfl, rfl, rfl, by decide, rfl, rfl, rfl⟩ 0 rfl rfl rfl rfl hl.1 (Nat.le_of_ble_eq_true rfl) rfl dX9_bumperValue_5 ⟨Nat.le_of_ble_eq_true rfl, Nat.le_of_ble_eq_true rfl⟩ (fun o_1 H locs eo_1 hP hD hS => ?_)
  exact z_iret' o_1 (w' := q_X9_bumperValue_1 cy h0 h1 h2 h3 h4 h5 h6 h7 h8 h9 v2 v3 v4 v5 v6 v7 v8 v9 v10 v11 g) (r0 := (fun (o : Int32) => 0)) (by simp only [n_X9_bumperValue_1, ← eo_1]) C hRT hP hD hS (Nat.le_of_ble_eq_true rfl) (Nat.le_of_ble_eq_true rfl) rfl rfl dX9_bumperValue_8

def n_X9_part5_ok (g : Nat → Int32) (i : Nat) : Int32 × Int32 :=
  (g (24 + i), 0)
def q_X9_part5_ok (cy : Nat → ClassId) (h0 : Nat) (h1 : Nat) (h2 : Nat) (h3 : Nat) (h4 : Nat) (h5 : Nat) (h6 : Nat) (h7 : Nat) (h8 : Nat) (h9 : Nat) (v2 : Int32) (v3 : Int32) (v4 : Int32) (v5 : Int32) (v6 : Int32) (v7 : Int32) (v8 : Int32) (v9 : Int32) (v10 : Int32) (v11 : Int32) (g : Nat → Int32) (o : Int32 × Int32) : va_W := [(h0, .inr (11, [.ref h1, .ref h2, .ref h3, .ref h4, .ref h5, .int o.2, .int v2, .int v3, .int v4, .int v5, .ref h6, .int v6, .ref h7, .ref h8, .ref h9, .int v7, .int v8, .int v9, .int v10, .int v11])), (h1, .inl (cy 0, 64, .inl (g)))]
set_option maxHeartbeats 4000000 in
set_option maxRecDepth 100000 in
theorem c_X9_part5_ok (l : Launch) {E : zEn} (hE : zEok E) (D : zG) (cy : Nat → ClassId) (h0 h1 h2 h3 h4 h5 h6 h7 h8 h9 : Nat) (v1 : Int32) (v2 : Int32) (v3 : Int32) (v4 : Int32) (v5 : Int32) (v6 : Int32) (v7 : Int32) (v8 : Int32) (v9 : Int32) (v10 : Int32) (v11 : Int32) (g : Nat → Int32) (x : Int32) (i : Nat) (hx : zi x i) (hxb : i ≤ 4) (hr : g 0 = 1) (sz : Nat) : Met l yX9_part (zws yX9_part cX9_part 4 (some .int)) { frames := 2, cells := 0, slots := 0, locals := 44 } (zPre E D cy [.ref h0, .int x, .int 5, .int 24] [(h0, .inr (11, [.ref h1, .ref h2, .ref h3, .ref h4, .ref h5, .int v1, .int v2, .int v3, .int v4, .int v5, .ref h6, .int v6, .ref h7, .ref h8, .ref h9, .int v7, .int v8, .int v9, .int v10, .int v11])), (h1, .inl (cy 0, 64, .inl (g)))] sz) (zQi D ((q_X9_part5_ok cy h0 h1 h2 h3 h4 h5 h6 h7 h8 h9 v2 v3 v4 v5 v6 v7 v8 v9 v10 v11 g) (n_X9_part5_ok g i)) (va_A [(h0, .inr (11, [.ref h1, .ref h2, .ref h3, .ref h4, .ref h5, .int v1, .int v2, .int v3, .int v4, .int v5, .ref h6, .int v6, .ref h7, .ref h8, .ref h9, .int v7, .int v8, .int v9, .int v10, .int v11])), (h1, .inl (cy 0, 64, .inl (g)))] sz) ((n_X9_part5_ok g i).1)) 0 0 (va_A [(h0, .inr (11, [.ref h1, .ref h2, .ref h3, .ref h4, .ref h5, .int v1, .int v2, .int v3, .int v4, .int v5, .ref h6, .int v6, .ref h7, .ref h8, .ref h9, .int v7, .int v8, .int v9, .int v10, .int v11])), (h1, .inl (cy 0, 64, .inl (g)))] sz) := by
  refine z_of (Qc := fun A => zQi D ((q_X9_part5_ok cy h0 h1 h2 h3 h4 h5 h6 h7 h8 h9 v2 v3 v4 v5 v6 v7 v8 v9 v10 v11 g) (n_X9_part5_ok g i)) A ((n_X9_part5_ok g i).1)) (by decide +kernel) (Nat.le_of_ble_eq_true rfl) rfl ?_
  intro pG eN sT mI below meth cO A ls C hRT hnm hA hP hD hS hE0 hl
  have hX := C.x
  have hB := C.b
  refine lv_aload_n hX hB dX9_part_0 rfl (lv_at hl 0 rfl) ?_
  refine lv_aload_n hX hB dX9_part_1 rfl (lv_at hl 0 rfl) ?_
  refine lv_iload_n hX hB dX9_part_2 rfl (lv_at hl 1 rfl) ?_
  refine lv_iload_n hX hB dX9_part_3 rfl (lv_at hl 2 rfl) ?_
  refine z_callVi (isC := [0, 1]) (isR := []) (isO := [0, 1]) (()) (q_X9_cannotHit5_ok cy h0 h1 h2 h3 h4 h5 h6 h7 h8 h9 v1 v2 v3 v4 v5 v6 v7 v8 v9 v10 v11 g) (fun o_1 => [(h0, .inr (11, [.ref h1, .ref h2, .ref h3, .ref h4, .ref h5, .int v1, .int v2, .int v3, .int v4, .int v5, .ref h6, .int v6, .ref h7, .ref h8, .ref h9, .int v7, .int v8, .int v9, .int v10, .int v11])), (h1, .inl (cy 0, 64, .inl (g)))]) (fun o_1 => 0) (c_X9_cannotHit5_ok l hE D cy h0 h1 h2 h3 h4 h5 h6 h7 h8 h9 v1 v2 v3 v4 v5 v6 v7 v8 v9 v10 v11 g x i hx (by omega) hr) hE C zs_X9_131 ⟨Nat.le_of_ble_eq_true rfl, Nat.le_of_ble_eq_true rfl⟩ hP hD hS hA hE0 ⟨rfl, rfl, rfl, by decide, rfl, rfl, rfl⟩ 0 rfl rfl rfl rfl hl.1 (Nat.le_of_ble_eq_true rfl) rfl dX9_part_4 ⟨Nat.le_of_ble_eq_true rfl, Nat.le_of_ble_eq_true rfl⟩ (fun o_1 H locs eo_1 hP hD hS => ?_)
  refine fp_X9_25 C hP hD hS 0 rfl rfl rfl (Nat.le_of_ble_eq_true rfl) (w' := [(h0, .inr (11, [.ref h1, .ref h2, .ref h3, .ref h4, .ref h5, .int 0, .int v2, .int v3, .int v4, .int v5, .ref h6, .int v6, .ref h7, .ref h8, .ref h9, .int v7, .int v8, .int v9, .int v10, .int v11])), (h1, .inl (cy 0, 64, .inl (g)))]) rfl dX9_part_7 (fun H locs hP hD hS => ?_)
  refine lv_aload_n hX hB dX9_part_10 rfl (lv_at hl 0 rfl) ?_
  refine fg_X9_25 C hP 0 rfl rfl dX9_part_11 ?_
  refine lv_if_le (tgt := 21) hX hB dX9_part_14 (by decide) (fun _ => ?_) (fun c => absurd (by decide) c)
  refine lv_aload_n hX hB dX9_part_21 rfl (lv_at hl 0 rfl) ?_
  refine fg_X9_7 C hP 0 rfl rfl dX9_part_22 ?_
  refine lv_iload_n hX hB dX9_part_25 rfl (lv_at hl 3 rfl) ?_
  refine lv_iload_n hX hB dX9_part_26 rfl (lv_at hl 1 rfl) ?_
  refine z_iadd (v := nI (24 + i)) C dX9_part_27 (zi_add (zlit 24) hx) ?_
  refine z_iald C hP 1 rfl (k := 24 + i) (zi_i (24 + i)) (by omega) (by decide) (v := g (24 + i)) rfl dX9_part_28 ?_
  exact z_iret' (g (24 + i), 0) (w' := q_X9_part5_ok cy h0 h1 h2 h3 h4 h5 h6 h7 h8 h9 v2 v3 v4 v5 v6 v7 v8 v9 v10 v11 g) (r0 := (fun (o : Int32 × Int32) => o.1)) (by simp only [n_X9_part5_ok]) C hRT hP hD hS (Nat.le_of_ble_eq_true rfl) (Nat.le_of_ble_eq_true rfl) rfl rfl dX9_part_29

def n_X9_isDown_ok (g : Nat → Int32) (i : Nat) : Int32 × Int32 :=
  let o_1 := n_X9_part5_ok g i
  if o_1.1 = 1 then
    (1, o_1.2)
  else
    (0, o_1.2)
def q_X9_isDown_ok (cy : Nat → ClassId) (h0 : Nat) (h1 : Nat) (h2 : Nat) (h3 : Nat) (h4 : Nat) (h5 : Nat) (h6 : Nat) (h7 : Nat) (h8 : Nat) (h9 : Nat) (v2 : Int32) (v3 : Int32) (v4 : Int32) (v5 : Int32) (v6 : Int32) (v7 : Int32) (v8 : Int32) (v9 : Int32) (v10 : Int32) (v11 : Int32) (g : Nat → Int32) (o : Int32 × Int32) : va_W := [(h0, .inr (11, [.ref h1, .ref h2, .ref h3, .ref h4, .ref h5, .int o.2, .int v2, .int v3, .int v4, .int v5, .ref h6, .int v6, .ref h7, .ref h8, .ref h9, .int v7, .int v8, .int v9, .int v10, .int v11])), (h1, .inl (cy 0, 64, .inl (g)))]
set_option maxHeartbeats 4000000 in
set_option maxRecDepth 100000 in
theorem c_X9_isDown_ok (l : Launch) {E : zEn} (hE : zEok E) (D : zG) (cy : Nat → ClassId) (h0 h1 h2 h3 h4 h5 h6 h7 h8 h9 : Nat) (v1 : Int32) (v2 : Int32) (v3 : Int32) (v4 : Int32) (v5 : Int32) (v6 : Int32) (v7 : Int32) (v8 : Int32) (v9 : Int32) (v10 : Int32) (v11 : Int32) (g : Nat → Int32) (x : Int32) (i : Nat) (hx : zi x i) (hxb : i ≤ 4) (hr : g 0 = 1) (sz : Nat) : Met l yX9_isDown (zws yX9_isDown cX9_isDown 2 (some .boolean)) { frames := 3, cells := 0, slots := 0, locals := 67 } (zPre E D cy [.ref h0, .int x] [(h0, .inr (11, [.ref h1, .ref h2, .ref h3, .ref h4, .ref h5, .int v1, .int v2, .int v3, .int v4, .int v5, .ref h6, .int v6, .ref h7, .ref h8, .ref h9, .int v7, .int v8, .int v9, .int v10, .int v11])), (h1, .inl (cy 0, 64, .inl (g)))] sz) (zQi D ((q_X9_isDown_ok cy h0 h1 h2 h3 h4 h5 h6 h7 h8 h9 v2 v3 v4 v5 v6 v7 v8 v9 v10 v11 g) (n_X9_isDown_ok g i)) (va_A [(h0, .inr (11, [.ref h1, .ref h2, .ref h3, .ref h4, .ref h5, .int v1, .int v2, .int v3, .int v4, .int v5, .ref h6, .int v6, .ref h7, .ref h8, .ref h9, .int v7, .int v8, .int v9, .int v10, .int v11])), (h1, .inl (cy 0, 64, .inl (g)))] sz) ((n_X9_isDown_ok g i).1)) 0 0 (va_A [(h0, .inr (11, [.ref h1, .ref h2, .ref h3, .ref h4, .ref h5, .int v1, .int v2, .int v3, .int v4, .int v5, .ref h6, .int v6, .ref h7, .ref h8, .ref h9, .int v7, .int v8, .int v9, .int v10, .int v11])), (h1, .inl (cy 0, 64, .inl (g)))] sz) := by
  refine z_of (Qc := fun A => zQi D ((q_X9_isDown_ok cy h0 h1 h2 h3 h4 h5 h6 h7 h8 h9 v2 v3 v4 v5 v6 v7 v8 v9 v10 v11 g) (n_X9_isDown_ok g i)) A ((n_X9_isDown_ok g i).1)) (by decide +kernel) (Nat.le_of_ble_eq_true rfl) rfl ?_
  intro pG eN sT mI below meth cO A ls C hRT hnm hA hP hD hS hE0 hl
  have hX := C.x
  have hB := C.b
  refine lv_aload_n hX hB dX9_isDown_0 rfl (lv_at hl 0 rfl) ?_
  refine lv_iload_n hX hB dX9_isDown_1 rfl (lv_at hl 1 rfl) ?_
  refine lv_iconst (v := 5) hX hB dX9_isDown_2 (by decide) ?_
  refine lv_bipush (v := 24) hX hB dX9_isDown_3 (by decide) ?_
  refine z_callVi (isC := [0, 1]) (isR := []) (isO := [0, 1]) (n_X9_part5_ok g i) (q_X9_part5_ok cy h0 h1 h2 h3 h4 h5 h6 h7 h8 h9 v2 v3 v4 v5 v6 v7 v8 v9 v10 v11 g) (fun o_1 => [(h0, .inr (11, [.ref h1, .ref h2, .ref h3, .ref h4, .ref h5, .int o_1.2, .int v2, .int v3, .int v4, .int v5, .ref h6, .int v6, .ref h7, .ref h8, .ref h9, .int v7, .int v8, .int v9, .int v10, .int v11])), (h1, .inl (cy 0, 64, .inl (g)))]) (fun o_1 => o_1.1) (c_X9_part5_ok l hE D cy h0 h1 h2 h3 h4 h5 h6 h7 h8 h9 v1 v2 v3 v4 v5 v6 v7 v8 v9 v10 v11 g x i hx (by omega) hr) hE C zs_X9_177 ⟨Nat.le_of_ble_eq_true rfl, Nat.le_of_ble_eq_true rfl⟩ hP hD hS hA hE0 ⟨rfl, rfl, rfl, by decide, rfl, rfl, rfl⟩ 0 rfl rfl rfl rfl hl.1 (Nat.le_of_ble_eq_true rfl) rfl dX9_isDown_5 ⟨Nat.le_of_ble_eq_true rfl, Nat.le_of_ble_eq_true rfl⟩ (fun o_1 H locs eo_1 hP hD hS => ?_)
  refine lv_iconst (v := 1) hX hB dX9_isDown_8 (by decide) ?_
  refine lv_icmp_ne (tgt := 16) hX hB dX9_isDown_9 (by decide) (fun c_2 => ?_) (fun c_2 => ?_)
  · refine lv_iconst (v := 0) hX hB dX9_isDown_16 (by decide) ?_
    exact z_zret' (0, o_1.2) (w' := q_X9_isDown_ok cy h0 h1 h2 h3 h4 h5 h6 h7 h8 h9 v2 v3 v4 v5 v6 v7 v8 v9 v10 v11 g) (r0 := (fun (o : Int32 × Int32) => o.1)) (by simp only [n_X9_isDown_ok, ← eo_1, if_neg c_2]) C hRT (zb01 (Or.inl rfl)) hP hD hS (Nat.le_of_ble_eq_true rfl) (Nat.le_of_ble_eq_true rfl) rfl rfl dX9_isDown_17
  · refine lv_iconst (v := 1) hX hB dX9_isDown_12 (by decide) ?_
    refine lv_goto (tgt := 17) hX hB dX9_isDown_13 (by decide) ?_
    exact z_zret' (1, o_1.2) (w' := q_X9_isDown_ok cy h0 h1 h2 h3 h4 h5 h6 h7 h8 h9 v2 v3 v4 v5 v6 v7 v8 v9 v10 v11 g) (r0 := (fun (o : Int32 × Int32) => o.1)) (by simp only [n_X9_isDown_ok, ← eo_1, if_pos c_2]) C hRT (zb01 (Or.inr rfl)) hP hD hS (Nat.le_of_ble_eq_true rfl) (Nat.le_of_ble_eq_true rfl) rfl rfl dX9_isDown_17

def n_X9_part5_2  : Int32 :=
  2
def q_X9_part5_2 (cy : Nat → ClassId) (h0 : Nat) (h1 : Nat) (h2 : Nat) (h3 : Nat) (h4 : Nat) (h5 : Nat) (h6 : Nat) (h7 : Nat) (h8 : Nat) (h9 : Nat) (v2 : Int32) (v3 : Int32) (v4 : Int32) (v5 : Int32) (v6 : Int32) (v7 : Int32) (v8 : Int32) (v9 : Int32) (v10 : Int32) (v11 : Int32) (g : Nat → Int32) (o : Int32) : va_W := [(h0, .inr (11, [.ref h1, .ref h2, .ref h3, .ref h4, .ref h5, .int o, .int v2, .int v3, .int v4, .int v5, .ref h6, .int v6, .ref h7, .ref h8, .ref h9, .int v7, .int v8, .int v9, .int v10, .int v11])), (h1, .inl (cy 0, 64, .inl (g)))]
set_option maxHeartbeats 4000000 in
set_option maxRecDepth 100000 in
theorem c_X9_part5_2 (l : Launch) {E : zEn} (hE : zEok E) (D : zG) (cy : Nat → ClassId) (h0 h1 h2 h3 h4 h5 h6 h7 h8 h9 : Nat) (v1 : Int32) (v2 : Int32) (v3 : Int32) (v4 : Int32) (v5 : Int32) (v6 : Int32) (v7 : Int32) (v8 : Int32) (v9 : Int32) (v10 : Int32) (v11 : Int32) (g : Nat → Int32) (x : Int32) (i : Nat) (hx : zi x i) (hxb : i ≤ 4) (hr : ¬ g 0 = 1) (sz : Nat) : Met l yX9_part (zws yX9_part cX9_part 4 (some .int)) { frames := 2, cells := 0, slots := 0, locals := 44 } (zPre E D cy [.ref h0, .int x, .int 5, .int 24] [(h0, .inr (11, [.ref h1, .ref h2, .ref h3, .ref h4, .ref h5, .int v1, .int v2, .int v3, .int v4, .int v5, .ref h6, .int v6, .ref h7, .ref h8, .ref h9, .int v7, .int v8, .int v9, .int v10, .int v11])), (h1, .inl (cy 0, 64, .inl (g)))] sz) (zQi D ((q_X9_part5_2 cy h0 h1 h2 h3 h4 h5 h6 h7 h8 h9 v2 v3 v4 v5 v6 v7 v8 v9 v10 v11 g) n_X9_part5_2) (va_A [(h0, .inr (11, [.ref h1, .ref h2, .ref h3, .ref h4, .ref h5, .int v1, .int v2, .int v3, .int v4, .int v5, .ref h6, .int v6, .ref h7, .ref h8, .ref h9, .int v7, .int v8, .int v9, .int v10, .int v11])), (h1, .inl (cy 0, 64, .inl (g)))] sz) (0)) 0 0 (va_A [(h0, .inr (11, [.ref h1, .ref h2, .ref h3, .ref h4, .ref h5, .int v1, .int v2, .int v3, .int v4, .int v5, .ref h6, .int v6, .ref h7, .ref h8, .ref h9, .int v7, .int v8, .int v9, .int v10, .int v11])), (h1, .inl (cy 0, 64, .inl (g)))] sz) := by
  refine z_of (Qc := fun A => zQi D ((q_X9_part5_2 cy h0 h1 h2 h3 h4 h5 h6 h7 h8 h9 v2 v3 v4 v5 v6 v7 v8 v9 v10 v11 g) n_X9_part5_2) A (0)) (by decide +kernel) (Nat.le_of_ble_eq_true rfl) rfl ?_
  intro pG eN sT mI below meth cO A ls C hRT hnm hA hP hD hS hE0 hl
  have hX := C.x
  have hB := C.b
  refine lv_aload_n hX hB dX9_part_0 rfl (lv_at hl 0 rfl) ?_
  refine lv_aload_n hX hB dX9_part_1 rfl (lv_at hl 0 rfl) ?_
  refine lv_iload_n hX hB dX9_part_2 rfl (lv_at hl 1 rfl) ?_
  refine lv_iload_n hX hB dX9_part_3 rfl (lv_at hl 2 rfl) ?_
  refine z_callVi (isC := [0, 1]) (isR := []) (isO := [0, 1]) (()) (q_X9_cannotHit5_2 cy h0 h1 h2 h3 h4 h5 h6 h7 h8 h9 v1 v2 v3 v4 v5 v6 v7 v8 v9 v10 v11 g) (fun o_1 => [(h0, .inr (11, [.ref h1, .ref h2, .ref h3, .ref h4, .ref h5, .int v1, .int v2, .int v3, .int v4, .int v5, .ref h6, .int v6, .ref h7, .ref h8, .ref h9, .int v7, .int v8, .int v9, .int v10, .int v11])), (h1, .inl (cy 0, 64, .inl (g)))]) (fun o_1 => 2) (c_X9_cannotHit5_2 l hE D cy h0 h1 h2 h3 h4 h5 h6 h7 h8 h9 v1 v2 v3 v4 v5 v6 v7 v8 v9 v10 v11 g x i hx (by omega) hr) hE C zs_X9_131 ⟨Nat.le_of_ble_eq_true rfl, Nat.le_of_ble_eq_true rfl⟩ hP hD hS hA hE0 ⟨rfl, rfl, rfl, by decide, rfl, rfl, rfl⟩ 0 rfl rfl rfl rfl hl.1 (Nat.le_of_ble_eq_true rfl) rfl dX9_part_4 ⟨Nat.le_of_ble_eq_true rfl, Nat.le_of_ble_eq_true rfl⟩ (fun o_1 H locs eo_1 hP hD hS => ?_)
  refine fp_X9_25 C hP hD hS 0 rfl rfl rfl (Nat.le_of_ble_eq_true rfl) (w' := [(h0, .inr (11, [.ref h1, .ref h2, .ref h3, .ref h4, .ref h5, .int 2, .int v2, .int v3, .int v4, .int v5, .ref h6, .int v6, .ref h7, .ref h8, .ref h9, .int v7, .int v8, .int v9, .int v10, .int v11])), (h1, .inl (cy 0, 64, .inl (g)))]) rfl dX9_part_7 (fun H locs hP hD hS => ?_)
  refine lv_aload_n hX hB dX9_part_10 rfl (lv_at hl 0 rfl) ?_
  refine fg_X9_25 C hP 0 rfl rfl dX9_part_11 ?_
  refine lv_if_le (tgt := 21) hX hB dX9_part_14 (by decide) (fun c => absurd c (by decide)) (fun _ => ?_)
  refine lv_iconst (v := 0) hX hB dX9_part_17 (by decide) ?_
  refine lv_goto (tgt := 29) hX hB dX9_part_18 (by decide) ?_
  exact z_iret' 2 (w' := q_X9_part5_2 cy h0 h1 h2 h3 h4 h5 h6 h7 h8 h9 v2 v3 v4 v5 v6 v7 v8 v9 v10 v11 g) (r0 := (fun (o : Int32) => 0)) (by simp only [n_X9_part5_2]) C hRT hP hD hS (Nat.le_of_ble_eq_true rfl) (Nat.le_of_ble_eq_true rfl) rfl rfl dX9_part_29

def n_X9_isDown_2  : Int32 :=
  let o_1 := n_X9_part5_2
  o_1
def q_X9_isDown_2 (cy : Nat → ClassId) (h0 : Nat) (h1 : Nat) (h2 : Nat) (h3 : Nat) (h4 : Nat) (h5 : Nat) (h6 : Nat) (h7 : Nat) (h8 : Nat) (h9 : Nat) (v2 : Int32) (v3 : Int32) (v4 : Int32) (v5 : Int32) (v6 : Int32) (v7 : Int32) (v8 : Int32) (v9 : Int32) (v10 : Int32) (v11 : Int32) (g : Nat → Int32) (o : Int32) : va_W := [(h0, .inr (11, [.ref h1, .ref h2, .ref h3, .ref h4, .ref h5, .int o, .int v2, .int v3, .int v4, .int v5, .ref h6, .int v6, .ref h7, .ref h8, .ref h9, .int v7, .int v8, .int v9, .int v10, .int v11])), (h1, .inl (cy 0, 64, .inl (g)))]
set_option maxHeartbeats 4000000 in
set_option maxRecDepth 100000 in
theorem c_X9_isDown_2 (l : Launch) {E : zEn} (hE : zEok E) (D : zG) (cy : Nat → ClassId) (h0 h1 h2 h3 h4 h5 h6 h7 h8 h9 : Nat) (v1 : Int32) (v2 : Int32) (v3 : Int32) (v4 : Int32) (v5 : Int32) (v6 : Int32) (v7 : Int32) (v8 : Int32) (v9 : Int32) (v10 : Int32) (v11 : Int32) (g : Nat → Int32) (x : Int32) (i : Nat) (hx : zi x i) (hxb : i ≤ 4) (hr : ¬ g 0 = 1) (sz : Nat) : Met l yX9_isDown (zws yX9_isDown cX9_isDown 2 (some .boolean)) { frames := 3, cells := 0, slots := 0, locals := 67 } (zPre E D cy [.ref h0, .int x] [(h0, .inr (11, [.ref h1, .ref h2, .ref h3, .ref h4, .ref h5, .int v1, .int v2, .int v3, .int v4, .int v5, .ref h6, .int v6, .ref h7, .ref h8, .ref h9, .int v7, .int v8, .int v9, .int v10, .int v11])), (h1, .inl (cy 0, 64, .inl (g)))] sz) (zQi D ((q_X9_isDown_2 cy h0 h1 h2 h3 h4 h5 h6 h7 h8 h9 v2 v3 v4 v5 v6 v7 v8 v9 v10 v11 g) n_X9_isDown_2) (va_A [(h0, .inr (11, [.ref h1, .ref h2, .ref h3, .ref h4, .ref h5, .int v1, .int v2, .int v3, .int v4, .int v5, .ref h6, .int v6, .ref h7, .ref h8, .ref h9, .int v7, .int v8, .int v9, .int v10, .int v11])), (h1, .inl (cy 0, 64, .inl (g)))] sz) (0)) 0 0 (va_A [(h0, .inr (11, [.ref h1, .ref h2, .ref h3, .ref h4, .ref h5, .int v1, .int v2, .int v3, .int v4, .int v5, .ref h6, .int v6, .ref h7, .ref h8, .ref h9, .int v7, .int v8, .int v9, .int v10, .int v11])), (h1, .inl (cy 0, 64, .inl (g)))] sz) := by
  refine z_of (Qc := fun A => zQi D ((q_X9_isDown_2 cy h0 h1 h2 h3 h4 h5 h6 h7 h8 h9 v2 v3 v4 v5 v6 v7 v8 v9 v10 v11 g) n_X9_isDown_2) A (0)) (by decide +kernel) (Nat.le_of_ble_eq_true rfl) rfl ?_
  intro pG eN sT mI below meth cO A ls C hRT hnm hA hP hD hS hE0 hl
  have hX := C.x
  have hB := C.b
  refine lv_aload_n hX hB dX9_isDown_0 rfl (lv_at hl 0 rfl) ?_
  refine lv_iload_n hX hB dX9_isDown_1 rfl (lv_at hl 1 rfl) ?_
  refine lv_iconst (v := 5) hX hB dX9_isDown_2 (by decide) ?_
  refine lv_bipush (v := 24) hX hB dX9_isDown_3 (by decide) ?_
  refine z_callVi (isC := [0, 1]) (isR := []) (isO := [0, 1]) (n_X9_part5_2) (q_X9_part5_2 cy h0 h1 h2 h3 h4 h5 h6 h7 h8 h9 v2 v3 v4 v5 v6 v7 v8 v9 v10 v11 g) (fun o_1 => [(h0, .inr (11, [.ref h1, .ref h2, .ref h3, .ref h4, .ref h5, .int o_1, .int v2, .int v3, .int v4, .int v5, .ref h6, .int v6, .ref h7, .ref h8, .ref h9, .int v7, .int v8, .int v9, .int v10, .int v11])), (h1, .inl (cy 0, 64, .inl (g)))]) (fun o_1 => 0) (c_X9_part5_2 l hE D cy h0 h1 h2 h3 h4 h5 h6 h7 h8 h9 v1 v2 v3 v4 v5 v6 v7 v8 v9 v10 v11 g x i hx (by omega) hr) hE C zs_X9_177 ⟨Nat.le_of_ble_eq_true rfl, Nat.le_of_ble_eq_true rfl⟩ hP hD hS hA hE0 ⟨rfl, rfl, rfl, by decide, rfl, rfl, rfl⟩ 0 rfl rfl rfl rfl hl.1 (Nat.le_of_ble_eq_true rfl) rfl dX9_isDown_5 ⟨Nat.le_of_ble_eq_true rfl, Nat.le_of_ble_eq_true rfl⟩ (fun o_1 H locs eo_1 hP hD hS => ?_)
  refine lv_iconst (v := 1) hX hB dX9_isDown_8 (by decide) ?_
  refine lv_icmp_ne (tgt := 16) hX hB dX9_isDown_9 (by decide) (fun _ => ?_) (fun c => absurd c (by decide))
  refine lv_iconst (v := 0) hX hB dX9_isDown_16 (by decide) ?_
  exact z_zret' o_1 (w' := q_X9_isDown_2 cy h0 h1 h2 h3 h4 h5 h6 h7 h8 h9 v2 v3 v4 v5 v6 v7 v8 v9 v10 v11 g) (r0 := (fun (o : Int32) => 0)) (by simp only [n_X9_isDown_2, ← eo_1]) C hRT (zb01 (Or.inl rfl)) hP hD hS (Nat.le_of_ble_eq_true rfl) (Nat.le_of_ble_eq_true rfl) rfl rfl dX9_isDown_17

def n_X9_part5_1  : Int32 :=
  1
def q_X9_part5_1 (cy : Nat → ClassId) (h0 : Nat) (h1 : Nat) (h2 : Nat) (h3 : Nat) (h4 : Nat) (h5 : Nat) (h6 : Nat) (h7 : Nat) (h8 : Nat) (h9 : Nat) (v2 : Int32) (v3 : Int32) (v4 : Int32) (v5 : Int32) (v6 : Int32) (v7 : Int32) (v8 : Int32) (v9 : Int32) (v10 : Int32) (v11 : Int32) (g : Nat → Int32) (o : Int32) : va_W := [(h0, .inr (11, [.ref h1, .ref h2, .ref h3, .ref h4, .ref h5, .int o, .int v2, .int v3, .int v4, .int v5, .ref h6, .int v6, .ref h7, .ref h8, .ref h9, .int v7, .int v8, .int v9, .int v10, .int v11])), (h1, .inl (cy 0, 64, .inl (g)))]
set_option maxHeartbeats 4000000 in
set_option maxRecDepth 100000 in
theorem c_X9_part5_1 (l : Launch) {E : zEn} (hE : zEok E) (D : zG) (cy : Nat → ClassId) (h0 h1 h2 h3 h4 h5 h6 h7 h8 h9 : Nat) (v1 : Int32) (v2 : Int32) (v3 : Int32) (v4 : Int32) (v5 : Int32) (v6 : Int32) (v7 : Int32) (v8 : Int32) (v9 : Int32) (v10 : Int32) (v11 : Int32) (g : Nat → Int32) (x : Int32) (hin : n_X9_in x 0 4 = 0) (sz : Nat) : Met l yX9_part (zws yX9_part cX9_part 4 (some .int)) { frames := 2, cells := 0, slots := 0, locals := 44 } (zPre E D cy [.ref h0, .int x, .int 5, .int 24] [(h0, .inr (11, [.ref h1, .ref h2, .ref h3, .ref h4, .ref h5, .int v1, .int v2, .int v3, .int v4, .int v5, .ref h6, .int v6, .ref h7, .ref h8, .ref h9, .int v7, .int v8, .int v9, .int v10, .int v11])), (h1, .inl (cy 0, 64, .inl (g)))] sz) (zQi D ((q_X9_part5_1 cy h0 h1 h2 h3 h4 h5 h6 h7 h8 h9 v2 v3 v4 v5 v6 v7 v8 v9 v10 v11 g) n_X9_part5_1) (va_A [(h0, .inr (11, [.ref h1, .ref h2, .ref h3, .ref h4, .ref h5, .int v1, .int v2, .int v3, .int v4, .int v5, .ref h6, .int v6, .ref h7, .ref h8, .ref h9, .int v7, .int v8, .int v9, .int v10, .int v11])), (h1, .inl (cy 0, 64, .inl (g)))] sz) (0)) 0 0 (va_A [(h0, .inr (11, [.ref h1, .ref h2, .ref h3, .ref h4, .ref h5, .int v1, .int v2, .int v3, .int v4, .int v5, .ref h6, .int v6, .ref h7, .ref h8, .ref h9, .int v7, .int v8, .int v9, .int v10, .int v11])), (h1, .inl (cy 0, 64, .inl (g)))] sz) := by
  refine z_of (Qc := fun A => zQi D ((q_X9_part5_1 cy h0 h1 h2 h3 h4 h5 h6 h7 h8 h9 v2 v3 v4 v5 v6 v7 v8 v9 v10 v11 g) n_X9_part5_1) A (0)) (by decide +kernel) (Nat.le_of_ble_eq_true rfl) rfl ?_
  intro pG eN sT mI below meth cO A ls C hRT hnm hA hP hD hS hE0 hl
  have hX := C.x
  have hB := C.b
  refine lv_aload_n hX hB dX9_part_0 rfl (lv_at hl 0 rfl) ?_
  refine lv_aload_n hX hB dX9_part_1 rfl (lv_at hl 0 rfl) ?_
  refine lv_iload_n hX hB dX9_part_2 rfl (lv_at hl 1 rfl) ?_
  refine lv_iload_n hX hB dX9_part_3 rfl (lv_at hl 2 rfl) ?_
  refine z_callVi (isC := [0, 1]) (isR := []) (isO := [0, 1]) (()) (q_X9_cannotHit5_1 cy h0 h1 h2 h3 h4 h5 h6 h7 h8 h9 v1 v2 v3 v4 v5 v6 v7 v8 v9 v10 v11 g) (fun o_1 => [(h0, .inr (11, [.ref h1, .ref h2, .ref h3, .ref h4, .ref h5, .int v1, .int v2, .int v3, .int v4, .int v5, .ref h6, .int v6, .ref h7, .ref h8, .ref h9, .int v7, .int v8, .int v9, .int v10, .int v11])), (h1, .inl (cy 0, 64, .inl (g)))]) (fun o_1 => 1) (c_X9_cannotHit5_1 l hE D cy h0 h1 h2 h3 h4 h5 h6 h7 h8 h9 v1 v2 v3 v4 v5 v6 v7 v8 v9 v10 v11 g x hin) hE C zs_X9_131 ⟨Nat.le_of_ble_eq_true rfl, Nat.le_of_ble_eq_true rfl⟩ hP hD hS hA hE0 ⟨rfl, rfl, rfl, by decide, rfl, rfl, rfl⟩ 0 rfl rfl rfl rfl hl.1 (Nat.le_of_ble_eq_true rfl) rfl dX9_part_4 ⟨Nat.le_of_ble_eq_true rfl, Nat.le_of_ble_eq_true rfl⟩ (fun o_1 H locs eo_1 hP hD hS => ?_)
  refine fp_X9_25 C hP hD hS 0 rfl rfl rfl (Nat.le_of_ble_eq_true rfl) (w' := [(h0, .inr (11, [.ref h1, .ref h2, .ref h3, .ref h4, .ref h5, .int 1, .int v2, .int v3, .int v4, .int v5, .ref h6, .int v6, .ref h7, .ref h8, .ref h9, .int v7, .int v8, .int v9, .int v10, .int v11])), (h1, .inl (cy 0, 64, .inl (g)))]) rfl dX9_part_7 (fun H locs hP hD hS => ?_)
  refine lv_aload_n hX hB dX9_part_10 rfl (lv_at hl 0 rfl) ?_
  refine fg_X9_25 C hP 0 rfl rfl dX9_part_11 ?_
  refine lv_if_le (tgt := 21) hX hB dX9_part_14 (by decide) (fun c => absurd c (by decide)) (fun _ => ?_)
  refine lv_iconst (v := 0) hX hB dX9_part_17 (by decide) ?_
  refine lv_goto (tgt := 29) hX hB dX9_part_18 (by decide) ?_
  exact z_iret' 1 (w' := q_X9_part5_1 cy h0 h1 h2 h3 h4 h5 h6 h7 h8 h9 v2 v3 v4 v5 v6 v7 v8 v9 v10 v11 g) (r0 := (fun (o : Int32) => 0)) (by simp only [n_X9_part5_1]) C hRT hP hD hS (Nat.le_of_ble_eq_true rfl) (Nat.le_of_ble_eq_true rfl) rfl rfl dX9_part_29

def n_X9_isDown_1  : Int32 :=
  let o_1 := n_X9_part5_1
  o_1
def q_X9_isDown_1 (cy : Nat → ClassId) (h0 : Nat) (h1 : Nat) (h2 : Nat) (h3 : Nat) (h4 : Nat) (h5 : Nat) (h6 : Nat) (h7 : Nat) (h8 : Nat) (h9 : Nat) (v2 : Int32) (v3 : Int32) (v4 : Int32) (v5 : Int32) (v6 : Int32) (v7 : Int32) (v8 : Int32) (v9 : Int32) (v10 : Int32) (v11 : Int32) (g : Nat → Int32) (o : Int32) : va_W := [(h0, .inr (11, [.ref h1, .ref h2, .ref h3, .ref h4, .ref h5, .int o, .int v2, .int v3, .int v4, .int v5, .ref h6, .int v6, .ref h7, .ref h8, .ref h9, .int v7, .int v8, .int v9, .int v10, .int v11])), (h1, .inl (cy 0, 64, .inl (g)))]
set_option maxHeartbeats 4000000 in
set_option maxRecDepth 100000 in
theorem c_X9_isDown_1 (l : Launch) {E : zEn} (hE : zEok E) (D : zG) (cy : Nat → ClassId) (h0 h1 h2 h3 h4 h5 h6 h7 h8 h9 : Nat) (v1 : Int32) (v2 : Int32) (v3 : Int32) (v4 : Int32) (v5 : Int32) (v6 : Int32) (v7 : Int32) (v8 : Int32) (v9 : Int32) (v10 : Int32) (v11 : Int32) (g : Nat → Int32) (x : Int32) (hin : n_X9_in x 0 4 = 0) (sz : Nat) : Met l yX9_isDown (zws yX9_isDown cX9_isDown 2 (some .boolean)) { frames := 3, cells := 0, slots := 0, locals := 67 } (zPre E D cy [.ref h0, .int x] [(h0, .inr (11, [.ref h1, .ref h2, .ref h3, .ref h4, .ref h5, .int v1, .int v2, .int v3, .int v4, .int v5, .ref h6, .int v6, .ref h7, .ref h8, .ref h9, .int v7, .int v8, .int v9, .int v10, .int v11])), (h1, .inl (cy 0, 64, .inl (g)))] sz) (zQi D ((q_X9_isDown_1 cy h0 h1 h2 h3 h4 h5 h6 h7 h8 h9 v2 v3 v4 v5 v6 v7 v8 v9 v10 v11 g) n_X9_isDown_1) (va_A [(h0, .inr (11, [.ref h1, .ref h2, .ref h3, .ref h4, .ref h5, .int v1, .int v2, .int v3, .int v4, .int v5, .ref h6, .int v6, .ref h7, .ref h8, .ref h9, .int v7, .int v8, .int v9, .int v10, .int v11])), (h1, .inl (cy 0, 64, .inl (g)))] sz) (0)) 0 0 (va_A [(h0, .inr (11, [.ref h1, .ref h2, .ref h3, .ref h4, .ref h5, .int v1, .int v2, .int v3, .int v4, .int v5, .ref h6, .int v6, .ref h7, .ref h8, .ref h9, .int v7, .int v8, .int v9, .int v10, .int v11])), (h1, .inl (cy 0, 64, .inl (g)))] sz) := by
  refine z_of (Qc := fun A => zQi D ((q_X9_isDown_1 cy h0 h1 h2 h3 h4 h5 h6 h7 h8 h9 v2 v3 v4 v5 v6 v7 v8 v9 v10 v11 g) n_X9_isDown_1) A (0)) (by decide +kernel) (Nat.le_of_ble_eq_true rfl) rfl ?_
  intro pG eN sT mI below meth cO A ls C hRT hnm hA hP hD hS hE0 hl
  have hX := C.x
  have hB := C.b
  refine lv_aload_n hX hB dX9_isDown_0 rfl (lv_at hl 0 rfl) ?_
  refine lv_iload_n hX hB dX9_isDown_1 rfl (lv_at hl 1 rfl) ?_
  refine lv_iconst (v := 5) hX hB dX9_isDown_2 (by decide) ?_
  refine lv_bipush (v := 24) hX hB dX9_isDown_3 (by decide) ?_
  refine z_callVi (isC := [0, 1]) (isR := []) (isO := [0, 1]) (n_X9_part5_1) (q_X9_part5_1 cy h0 h1 h2 h3 h4 h5 h6 h7 h8 h9 v2 v3 v4 v5 v6 v7 v8 v9 v10 v11 g) (fun o_1 => [(h0, .inr (11, [.ref h1, .ref h2, .ref h3, .ref h4, .ref h5, .int o_1, .int v2, .int v3, .int v4, .int v5, .ref h6, .int v6, .ref h7, .ref h8, .ref h9, .int v7, .int v8, .int v9, .int v10, .int v11])), (h1, .inl (cy 0, 64, .inl (g)))]) (fun o_1 => 0) (c_X9_part5_1 l hE D cy h0 h1 h2 h3 h4 h5 h6 h7 h8 h9 v1 v2 v3 v4 v5 v6 v7 v8 v9 v10 v11 g x hin) hE C zs_X9_177 ⟨Nat.le_of_ble_eq_true rfl, Nat.le_of_ble_eq_true rfl⟩ hP hD hS hA hE0 ⟨rfl, rfl, rfl, by decide, rfl, rfl, rfl⟩ 0 rfl rfl rfl rfl hl.1 (Nat.le_of_ble_eq_true rfl) rfl dX9_isDown_5 ⟨Nat.le_of_ble_eq_true rfl, Nat.le_of_ble_eq_true rfl⟩ (fun o_1 H locs eo_1 hP hD hS => ?_)
  refine lv_iconst (v := 1) hX hB dX9_isDown_8 (by decide) ?_
  refine lv_icmp_ne (tgt := 16) hX hB dX9_isDown_9 (by decide) (fun _ => ?_) (fun c => absurd c (by decide))
  refine lv_iconst (v := 0) hX hB dX9_isDown_16 (by decide) ?_
  exact z_zret' o_1 (w' := q_X9_isDown_1 cy h0 h1 h2 h3 h4 h5 h6 h7 h8 h9 v2 v3 v4 v5 v6 v7 v8 v9 v10 v11 g) (r0 := (fun (o : Int32) => 0)) (by simp only [n_X9_isDown_1, ← eo_1]) C hRT (zb01 (Or.inl rfl)) hP hD hS (Nat.le_of_ble_eq_true rfl) (Nat.le_of_ble_eq_true rfl) rfl rfl dX9_isDown_17

def n_X9_bumpers_ok_L1 (g : Nat → Int32) (y : Int32) : Nat → Int32 → Int32 → Nat → Int32 × Int32
  | 0, _, _, _ => (0, 0)
  | n_6 + 1, x_7, x_8, k =>
    if y ≤ nI k then
      (x_8 * (g 5), 0)
    else
      if 200 ≤ x_7 then
        n_X9_bumpers_ok_L1 g y n_6 (x_7 + 0) (x_8 + x_7) (k + 1)
      else
        n_X9_bumpers_ok_L1 g y n_6 (x_7 + 10) (x_8 + x_7) (k + 1)
def n_X9_bumpers_ok (g : Nat → Int32) (i : Nat) (y : Int32) : Int32 × Int32 :=
  let o_4 := n_X9_isTilt g
  if o_4 = 0 then
    n_X9_bumpers_ok_L1 g y 51 (g (20 + i)) 0 0
  else
    (0, 0)
def q_X9_bumpers_ok (cy : Nat → ClassId) (h0 : Nat) (h1 : Nat) (h2 : Nat) (h3 : Nat) (h4 : Nat) (h5 : Nat) (h6 : Nat) (h7 : Nat) (h8 : Nat) (h9 : Nat) (v2 : Int32) (v3 : Int32) (v4 : Int32) (v5 : Int32) (v6 : Int32) (v7 : Int32) (v8 : Int32) (v9 : Int32) (v10 : Int32) (v11 : Int32) (g : Nat → Int32) (o : Int32 × Int32) : va_W := [(h0, .inr (11, [.ref h1, .ref h2, .ref h3, .ref h4, .ref h5, .int o.2, .int v2, .int v3, .int v4, .int v5, .ref h6, .int v6, .ref h7, .ref h8, .ref h9, .int v7, .int v8, .int v9, .int v10, .int v11])), (h1, .inl (cy 0, 64, .inl (g)))]
set_option maxHeartbeats 4000000 in
set_option maxRecDepth 100000 in
theorem c_X9_bumpers_ok (l : Launch) {E : zEn} (hE : zEok E) (D : zG) (cy : Nat → ClassId) (h0 h1 h2 h3 h4 h5 h6 h7 h8 h9 : Nat) (v1 : Int32) (v2 : Int32) (v3 : Int32) (v4 : Int32) (v5 : Int32) (v6 : Int32) (v7 : Int32) (v8 : Int32) (v9 : Int32) (v10 : Int32) (v11 : Int32) (g : Nat → Int32) (x : Int32) (i : Nat) (y : Int32) (j : Nat) (hx : zi x i) (hxb : i ≤ 2) (hy : zi y j) (hyb : j ≤ 50) (hr : g 0 = 1) (sz : Nat) : Met l yX9_bumpers (zws yX9_bumpers cX9_bumpers 6 (some .int)) { frames := 1, cells := 0, slots := 0, locals := 22 } (zPre E D cy [.ref h0, .int x, .int y] [(h0, .inr (11, [.ref h1, .ref h2, .ref h3, .ref h4, .ref h5, .int v1, .int v2, .int v3, .int v4, .int v5, .ref h6, .int v6, .ref h7, .ref h8, .ref h9, .int v7, .int v8, .int v9, .int v10, .int v11])), (h1, .inl (cy 0, 64, .inl (g)))] sz) (zQi D ((q_X9_bumpers_ok cy h0 h1 h2 h3 h4 h5 h6 h7 h8 h9 v2 v3 v4 v5 v6 v7 v8 v9 v10 v11 g) (n_X9_bumpers_ok g i y)) (va_A [(h0, .inr (11, [.ref h1, .ref h2, .ref h3, .ref h4, .ref h5, .int v1, .int v2, .int v3, .int v4, .int v5, .ref h6, .int v6, .ref h7, .ref h8, .ref h9, .int v7, .int v8, .int v9, .int v10, .int v11])), (h1, .inl (cy 0, 64, .inl (g)))] sz) ((n_X9_bumpers_ok g i y).1)) 0 0 (va_A [(h0, .inr (11, [.ref h1, .ref h2, .ref h3, .ref h4, .ref h5, .int v1, .int v2, .int v3, .int v4, .int v5, .ref h6, .int v6, .ref h7, .ref h8, .ref h9, .int v7, .int v8, .int v9, .int v10, .int v11])), (h1, .inl (cy 0, 64, .inl (g)))] sz) := by
  refine z_of (Qc := fun A => zQi D ((q_X9_bumpers_ok cy h0 h1 h2 h3 h4 h5 h6 h7 h8 h9 v2 v3 v4 v5 v6 v7 v8 v9 v10 v11 g) (n_X9_bumpers_ok g i y)) A ((n_X9_bumpers_ok g i y).1)) (by decide +kernel) (Nat.le_of_ble_eq_true rfl) rfl ?_
  intro pG eN sT mI below meth cO A ls C hRT hnm hA hP hD hS hE0 hl
  have hX := C.x
  have hB := C.b
  refine lv_aload_n hX hB dX9_bumpers_0 rfl (lv_at hl 0 rfl) ?_
  refine lv_iload_n hX hB dX9_bumpers_1 rfl (lv_at hl 1 rfl) ?_
  refine lv_iconst (v := 0) hX hB dX9_bumpers_2 (by decide) ?_
  refine lv_iconst (v := 2) hX hB dX9_bumpers_3 (by decide) ?_
  refine z_callSi (isC := []) (isR := [0, 1]) (isO := [0, 1]) (()) (q_X9_in_t ) (fun o_1 => [(h0, .inr (11, [.ref h1, .ref h2, .ref h3, .ref h4, .ref h5, .int v1, .int v2, .int v3, .int v4, .int v5, .ref h6, .int v6, .ref h7, .ref h8, .ref h9, .int v7, .int v8, .int v9, .int v10, .int v11])), (h1, .inl (cy 0, 64, .inl (g)))]) (fun o_1 => 1) (c_X9_in_t l hE D cy  x i 0 0 2 2 hx (zlit 0) (zlit 2) (by omega) (by omega) (by omega)) hE C zs_X9_127 ⟨Nat.le_of_ble_eq_true rfl, Nat.le_of_ble_eq_true rfl⟩ hP hD hS hA hE0 ⟨rfl, rfl, rfl, by decide, rfl, rfl, rfl⟩ rfl hl.1 (Nat.le_of_ble_eq_true rfl) rfl dX9_bumpers_4 ⟨Nat.le_of_ble_eq_true rfl, Nat.le_of_ble_eq_true rfl⟩ (fun o_1 H locs eo_1 hP hD hS => ?_)
  refine lv_if_ne (tgt := 14) hX hB dX9_bumpers_7 (by decide) (fun _ => ?_) (fun c => absurd c (by decide))
  refine lv_iload_n hX hB dX9_bumpers_14 rfl (lv_at hl 2 rfl) ?_
  refine lv_iconst (v := 0) hX hB dX9_bumpers_15 (by decide) ?_
  refine lv_bipush (v := 50) hX hB dX9_bumpers_16 (by decide) ?_
  refine z_callSi (isC := []) (isR := [0, 1]) (isO := [0, 1]) (()) (q_X9_in_t ) (fun o_2 => [(h0, .inr (11, [.ref h1, .ref h2, .ref h3, .ref h4, .ref h5, .int v1, .int v2, .int v3, .int v4, .int v5, .ref h6, .int v6, .ref h7, .ref h8, .ref h9, .int v7, .int v8, .int v9, .int v10, .int v11])), (h1, .inl (cy 0, 64, .inl (g)))]) (fun o_2 => 1) (c_X9_in_t l hE D cy  y j 0 0 50 50 hy (zlit 0) (zlit 50) (by omega) (by omega) (by omega)) hE C zs_X9_127 ⟨Nat.le_of_ble_eq_true rfl, Nat.le_of_ble_eq_true rfl⟩ hP hD hS hA hE0 ⟨rfl, rfl, rfl, by decide, rfl, rfl, rfl⟩ rfl hl.1 (Nat.le_of_ble_eq_true rfl) rfl dX9_bumpers_18 ⟨Nat.le_of_ble_eq_true rfl, Nat.le_of_ble_eq_true rfl⟩ (fun o_2 H locs eo_2 hP hD hS => ?_)
  refine lv_if_ne (tgt := 28) hX hB dX9_bumpers_21 (by decide) (fun _ => ?_) (fun c => absurd c (by decide))
  refine lv_aload_n hX hB dX9_bumpers_28 rfl (lv_at hl 0 rfl) ?_
  refine z_callVi (isC := [0, 1]) (isR := []) (isO := [0, 1]) (()) (q_X9_runs_t cy h0 h1 h2 h3 h4 h5 h6 h7 h8 h9 v1 v2 v3 v4 v5 v6 v7 v8 v9 v10 v11 g) (fun o_3 => [(h0, .inr (11, [.ref h1, .ref h2, .ref h3, .ref h4, .ref h5, .int v1, .int v2, .int v3, .int v4, .int v5, .ref h6, .int v6, .ref h7, .ref h8, .ref h9, .int v7, .int v8, .int v9, .int v10, .int v11])), (h1, .inl (cy 0, 64, .inl (g)))]) (fun o_3 => 1) (c_X9_runs_t l hE D cy h0 h1 h2 h3 h4 h5 h6 h7 h8 h9 v1 v2 v3 v4 v5 v6 v7 v8 v9 v10 v11 g hr) hE C zs_X9_76 ⟨Nat.le_of_ble_eq_true rfl, Nat.le_of_ble_eq_true rfl⟩ hP hD hS hA hE0 ⟨rfl, rfl, rfl, by decide, rfl, rfl, rfl⟩ 0 rfl rfl rfl rfl hl.1 (Nat.le_of_ble_eq_true rfl) rfl dX9_bumpers_29 ⟨Nat.le_of_ble_eq_true rfl, Nat.le_of_ble_eq_true rfl⟩ (fun o_3 H locs eo_3 hP hD hS => ?_)
  refine lv_if_eq (tgt := 39) hX hB dX9_bumpers_32 (by decide) (fun c => absurd c (by decide)) (fun _ => ?_)
  refine lv_iconst (v := 0) hX hB dX9_bumpers_35 (by decide) ?_
  refine lv_goto (tgt := 40) hX hB dX9_bumpers_36 (by decide) ?_
  refine fp_X9_25 C hP hD hS 0 rfl rfl rfl (Nat.le_of_ble_eq_true rfl) (w' := [(h0, .inr (11, [.ref h1, .ref h2, .ref h3, .ref h4, .ref h5, .int 0, .int v2, .int v3, .int v4, .int v5, .ref h6, .int v6, .ref h7, .ref h8, .ref h9, .int v7, .int v8, .int v9, .int v10, .int v11])), (h1, .inl (cy 0, 64, .inl (g)))]) rfl dX9_bumpers_40 (fun H locs hP hD hS => ?_)
  refine lv_aload_n hX hB dX9_bumpers_43 rfl (lv_at hl 0 rfl) ?_
  refine fg_X9_25 C hP 0 rfl rfl dX9_bumpers_44 ?_
  refine lv_if_gt (tgt := 57) hX hB dX9_bumpers_47 (by decide) (fun c => absurd c (by decide)) (fun _ => ?_)
  refine lv_aload_n hX hB dX9_bumpers_50 rfl (lv_at hl 0 rfl) ?_
  refine z_callVi (isC := [0, 1]) (isR := []) (isO := [0, 1]) (n_X9_isTilt g) (q_X9_isTilt cy h0 h1 h2 h3 h4 h5 h6 h7 h8 h9 0 v2 v3 v4 v5 v6 v7 v8 v9 v10 v11 g) (fun o_4 => [(h0, .inr (11, [.ref h1, .ref h2, .ref h3, .ref h4, .ref h5, .int 0, .int v2, .int v3, .int v4, .int v5, .ref h6, .int v6, .ref h7, .ref h8, .ref h9, .int v7, .int v8, .int v9, .int v10, .int v11])), (h1, .inl (cy 0, 64, .inl (g)))]) (fun o_4 => o_4) (c_X9_isTilt l hE D cy h0 h1 h2 h3 h4 h5 h6 h7 h8 h9 0 v2 v3 v4 v5 v6 v7 v8 v9 v10 v11 g ) hE C zs_X9_113 ⟨Nat.le_of_ble_eq_true rfl, Nat.le_of_ble_eq_true rfl⟩ hP hD hS hA hE0 ⟨rfl, rfl, rfl, by decide, rfl, rfl, rfl⟩ 0 rfl rfl rfl rfl hl.1 (Nat.le_of_ble_eq_true rfl) rfl dX9_bumpers_51 ⟨Nat.le_of_ble_eq_true rfl, Nat.le_of_ble_eq_true rfl⟩ (fun o_4 H locs eo_4 hP hD hS => ?_)
  refine lv_if_eq (tgt := 59) hX hB dX9_bumpers_54 (by decide) (fun c_5 => ?_) (fun c_5 => ?_)
  · refine lv_aload_n hX hB dX9_bumpers_59 rfl (lv_at hl 0 rfl) ?_
    refine fg_X9_7 C hP 0 rfl rfl dX9_bumpers_60 ?_
    refine lv_bipush (v := 20) hX hB dX9_bumpers_63 (by decide) ?_
    refine lv_iload_n hX hB dX9_bumpers_65 rfl (lv_at hl 1 rfl) ?_
    refine z_iadd (v := nI (20 + i)) C dX9_bumpers_66 (zi_add (zlit 20) hx) ?_
    refine z_iald C hP 1 rfl (k := 20 + i) (zi_i (20 + i)) (by omega) (by decide) (v := g (20 + i)) rfl dX9_bumpers_67 ?_
    refine lv_istore_n (lv' := [(3, .int (g (20 + i))), (0, .ref h0), (1, .int x), (2, .int y)]) hX hB dX9_bumpers_68 rfl hl (by decide) rfl (fun ls hl => ?_)
    refine lv_iconst (v := 0) hX hB dX9_bumpers_69 (by decide) ?_
    refine lv_istore (lv' := [(4, .int 0), (3, .int (g (20 + i))), (0, .ref h0), (1, .int x), (2, .int y)]) hX hB dX9_bumpers_70 hl (by decide) rfl (fun ls hl => ?_)
    refine lv_iconst (v := 0) hX hB dX9_bumpers_72 (by decide) ?_
    refine lv_istore (lv' := [(5, .int 0), (4, .int 0), (3, .int (g (20 + i))), (0, .ref h0), (1, .int x), (2, .int y)]) hX hB dX9_bumpers_73 hl (by decide) rfl (fun ls hl => ?_)
    have loop_0 : ∀ (n_6 : Nat) (x_7 : Int32) (x_8 : Int32) (k : Nat), (k ≤ j) → j - k < n_6 → n_X9_bumpers_ok_L1 g y n_6 x_7 x_8 k = n_X9_bumpers_ok g i y → ∀ (H : Heap) (locs : List Loc), va_P D vwCl [(h0, .inr (11, [.ref h1, .ref h2, .ref h3, .ref h4, .ref h5, .int 0, .int v2, .int v3, .int v4, .int v5, .ref h6, .int v6, .ref h7, .ref h8, .ref h9, .int v7, .int v8, .int v9, .int v10, .int v11])), (h1, .inl (cy 0, 64, .inl (g)))] H → va_D A [(h0, .inr (11, [.ref h1, .ref h2, .ref h3, .ref h4, .ref h5, .int 0, .int v2, .int v3, .int v4, .int v5, .ref h6, .int v6, .ref h7, .ref h8, .ref h9, .int v7, .int v8, .int v9, .int v10, .int v11])), (h1, .inl (cy 0, 64, .inl (g)))] → va_S A sT.heap H locs → ∀ (ls : Array Slot), lv_has ls 6 [(5, .int (nI k)), (4, .int x_8), (3, .int x_7), (0, .ref h0), (1, .int x), (2, .int y)] → W pG l eN { frames := 1, cells := 0, slots := 0, locals := 22 } sT mI ([.ref h0, .int x, .int y] : List Value).toArray below meth cO H locs 0 0 (MQ below (zQi D ((q_X9_bumpers_ok cy h0 h1 h2 h3 h4 h5 h6 h7 h8 h9 v2 v3 v4 v5 v6 v7 v8 v9 v10 v11 g) (n_X9_bumpers_ok g i y)) A ((n_X9_bumpers_ok g i y).1)) ([.ref h0, .int x, .int y] : List Value).toArray sT 0 0 A) (F0 mI 75 ls []) := by
      intro n_6
      induction n_6 with
      | zero =>
        intro x_7 x_8 k hb_0_0 hm_0
        exact absurd hm_0 (by omega)
      | succ n_6 ih_9 =>
        intro x_7 x_8 k hb_0_0 hm_0 hF_0 H locs hP hD hS ls hl
        refine lv_iload hX hB dX9_bumpers_75 (lv_at hl 0 rfl) ?_
        refine lv_iload_n hX hB dX9_bumpers_77 rfl (lv_at hl 5 rfl) ?_
        refine lv_icmp_ge (tgt := 109) hX hB dX9_bumpers_78 (by decide) (fun c_10 => ?_) (fun c_10 => ?_)
        · have c_10n : j ≤ k := (zi_le_iff hy (zi_i k) (by omega) (by omega)).mp c_10
          refine lv_iload hX hB dX9_bumpers_109 (lv_at hl 1 rfl) ?_
          refine lv_aload_n hX hB dX9_bumpers_111 rfl (lv_at hl 3 rfl) ?_
          refine fg_X9_7 C hP 0 rfl rfl dX9_bumpers_112 ?_
          refine lv_iconst (v := 5) hX hB dX9_bumpers_115 (by decide) ?_
          refine z_iald C hP 1 rfl (k := 5) (zlit 5) (by decide) (by decide) (v := g 5) rfl dX9_bumpers_116 ?_
          refine z_imul (v := x_8 * (g 5)) C dX9_bumpers_117 rfl ?_
          exact z_iret' (x_8 * (g 5), 0) (w' := q_X9_bumpers_ok cy h0 h1 h2 h3 h4 h5 h6 h7 h8 h9 v2 v3 v4 v5 v6 v7 v8 v9 v10 v11 g) (r0 := (fun (o : Int32 × Int32) => o.1)) (hF_0.symm.trans (by simp only [n_X9_bumpers_ok_L1, if_pos c_10])) C hRT hP hD hS (Nat.le_of_ble_eq_true rfl) (Nat.le_of_ble_eq_true rfl) rfl rfl dX9_bumpers_118
        · have c_10n : ¬ (j ≤ k) := fun z => c_10 ((zi_le_iff hy (zi_i k) (by omega) (by omega)).mpr z)
          refine lv_iload hX hB dX9_bumpers_81 (lv_at hl 1 rfl) ?_
          refine lv_iload_n hX hB dX9_bumpers_83 rfl (lv_at hl 2 rfl) ?_
          refine z_iadd (v := x_8 + x_7) C dX9_bumpers_84 rfl ?_
          refine lv_istore (lv' := [(4, .int (x_8 + x_7)), (5, .int (nI k)), (3, .int x_7), (0, .ref h0), (1, .int x), (2, .int y)]) hX hB dX9_bumpers_85 hl (by decide) rfl (fun ls hl => ?_)
          refine lv_iload_n hX hB dX9_bumpers_87 rfl (lv_at hl 2 rfl) ?_
          refine lv_iload_n hX hB dX9_bumpers_88 rfl (lv_at hl 2 rfl) ?_
          refine lv_sipush (v := 200) hX hB dX9_bumpers_89 (by decide) ?_
          refine lv_icmp_ge (tgt := 100) hX hB dX9_bumpers_92 (by decide) (fun c_11 => ?_) (fun c_11 => ?_)
          · refine lv_iconst (v := 0) hX hB dX9_bumpers_100 (by decide) ?_
            refine z_iadd (v := x_7 + 0) C dX9_bumpers_101 rfl ?_
            refine lv_istore_n (lv' := [(3, .int (x_7 + 0)), (4, .int (x_8 + x_7)), (5, .int (nI k)), (0, .ref h0), (1, .int x), (2, .int y)]) hX hB dX9_bumpers_102 rfl hl (by decide) rfl (fun ls hl => ?_)
            refine lv_iinc (v := nI (k + 1)) (lv' := [(5, .int (nI (k + 1))), (3, .int (x_7 + 0)), (4, .int (x_8 + x_7)), (0, .ref h0), (1, .int x), (2, .int y)]) hX hB dX9_bumpers_103 hl (k := 2) rfl (zi_add (zi_i k) (zlit 1)) (by decide) rfl (fun ls hl => ?_)
            refine lv_goto (tgt := 75) hX hB dX9_bumpers_106 (by decide) ?_
            exact ih_9 (x_7 + 0) (x_8 + x_7) (k + 1) (by omega)  (by omega) (Eq.trans (by simp only [n_X9_bumpers_ok_L1, if_neg c_10, if_pos c_11]) hF_0) _ _ hP hD hS ls (lv_sub hl [0, 2, 1, 3, 4, 5] rfl)
          · refine lv_bipush (v := 10) hX hB dX9_bumpers_95 (by decide) ?_
            refine lv_goto (tgt := 101) hX hB dX9_bumpers_97 (by decide) ?_
            refine z_iadd (v := x_7 + 10) C dX9_bumpers_101 rfl ?_
            refine lv_istore_n (lv' := [(3, .int (x_7 + 10)), (4, .int (x_8 + x_7)), (5, .int (nI k)), (0, .ref h0), (1, .int x), (2, .int y)]) hX hB dX9_bumpers_102 rfl hl (by decide) rfl (fun ls hl => ?_)
            refine lv_iinc (v := nI (k + 1)) (lv' := [(5, .int (nI (k + 1))), (3, .int (x_7 + 10)), (4, .int (x_8 + x_7)), (0, .ref h0), (1, .int x), (2, .int y)]) hX hB dX9_bumpers_103 hl (k := 2) rfl (zi_add (zi_i k) (zlit 1)) (by decide) rfl (fun ls hl => ?_)
            refine lv_goto (tgt := 75) hX hB dX9_bumpers_106 (by decide) ?_
            exact ih_9 (x_7 + 10) (x_8 + x_7) (k + 1) (by omega)  (by omega) (Eq.trans (by simp only [n_X9_bumpers_ok_L1, if_neg c_10, if_neg c_11]) hF_0) _ _ hP hD hS ls (lv_sub hl [0, 2, 1, 3, 4, 5] rfl)
    exact loop_0 51 (g (20 + i)) 0 0 (by omega)  (by omega) (by simp only [n_X9_bumpers_ok, ← eo_4, if_pos c_5]) _ _ hP hD hS ls hl
  · refine lv_iconst (v := 0) hX hB dX9_bumpers_57 (by decide) ?_
    exact z_iret' (0, 0) (w' := q_X9_bumpers_ok cy h0 h1 h2 h3 h4 h5 h6 h7 h8 h9 v2 v3 v4 v5 v6 v7 v8 v9 v10 v11 g) (r0 := (fun (o : Int32 × Int32) => o.1)) (by simp only [n_X9_bumpers_ok, ← eo_4, if_neg c_5]) C hRT hP hD hS (Nat.le_of_ble_eq_true rfl) (Nat.le_of_ble_eq_true rfl) rfl rfl dX9_bumpers_58

def n_X9_bumpers_3  : Int32 :=
  3
def q_X9_bumpers_3 (cy : Nat → ClassId) (h0 : Nat) (h1 : Nat) (h2 : Nat) (h3 : Nat) (h4 : Nat) (h5 : Nat) (h6 : Nat) (h7 : Nat) (h8 : Nat) (h9 : Nat) (v2 : Int32) (v3 : Int32) (v4 : Int32) (v5 : Int32) (v6 : Int32) (v7 : Int32) (v8 : Int32) (v9 : Int32) (v10 : Int32) (v11 : Int32) (g : Nat → Int32) (o : Int32) : va_W := [(h0, .inr (11, [.ref h1, .ref h2, .ref h3, .ref h4, .ref h5, .int o, .int v2, .int v3, .int v4, .int v5, .ref h6, .int v6, .ref h7, .ref h8, .ref h9, .int v7, .int v8, .int v9, .int v10, .int v11])), (h1, .inl (cy 0, 64, .inl (g)))]
set_option maxHeartbeats 4000000 in
set_option maxRecDepth 100000 in
theorem c_X9_bumpers_3 (l : Launch) {E : zEn} (hE : zEok E) (D : zG) (cy : Nat → ClassId) (h0 h1 h2 h3 h4 h5 h6 h7 h8 h9 : Nat) (v1 : Int32) (v2 : Int32) (v3 : Int32) (v4 : Int32) (v5 : Int32) (v6 : Int32) (v7 : Int32) (v8 : Int32) (v9 : Int32) (v10 : Int32) (v11 : Int32) (g : Nat → Int32) (x : Int32) (i : Nat) (y : Int32) (j : Nat) (hx : zi x i) (hxb : i ≤ 2) (hy : zi y j) (hyb : j ≤ 50) (hr : ¬ g 0 = 1) (sz : Nat) : Met l yX9_bumpers (zws yX9_bumpers cX9_bumpers 6 (some .int)) { frames := 1, cells := 0, slots := 0, locals := 22 } (zPre E D cy [.ref h0, .int x, .int y] [(h0, .inr (11, [.ref h1, .ref h2, .ref h3, .ref h4, .ref h5, .int v1, .int v2, .int v3, .int v4, .int v5, .ref h6, .int v6, .ref h7, .ref h8, .ref h9, .int v7, .int v8, .int v9, .int v10, .int v11])), (h1, .inl (cy 0, 64, .inl (g)))] sz) (zQi D ((q_X9_bumpers_3 cy h0 h1 h2 h3 h4 h5 h6 h7 h8 h9 v2 v3 v4 v5 v6 v7 v8 v9 v10 v11 g) n_X9_bumpers_3) (va_A [(h0, .inr (11, [.ref h1, .ref h2, .ref h3, .ref h4, .ref h5, .int v1, .int v2, .int v3, .int v4, .int v5, .ref h6, .int v6, .ref h7, .ref h8, .ref h9, .int v7, .int v8, .int v9, .int v10, .int v11])), (h1, .inl (cy 0, 64, .inl (g)))] sz) (0)) 0 0 (va_A [(h0, .inr (11, [.ref h1, .ref h2, .ref h3, .ref h4, .ref h5, .int v1, .int v2, .int v3, .int v4, .int v5, .ref h6, .int v6, .ref h7, .ref h8, .ref h9, .int v7, .int v8, .int v9, .int v10, .int v11])), (h1, .inl (cy 0, 64, .inl (g)))] sz) := by
  refine z_of (Qc := fun A => zQi D ((q_X9_bumpers_3 cy h0 h1 h2 h3 h4 h5 h6 h7 h8 h9 v2 v3 v4 v5 v6 v7 v8 v9 v10 v11 g) n_X9_bumpers_3) A (0)) (by decide +kernel) (Nat.le_of_ble_eq_true rfl) rfl ?_
  intro pG eN sT mI below meth cO A ls C hRT hnm hA hP hD hS hE0 hl
  have hX := C.x
  have hB := C.b
  refine lv_aload_n hX hB dX9_bumpers_0 rfl (lv_at hl 0 rfl) ?_
  refine lv_iload_n hX hB dX9_bumpers_1 rfl (lv_at hl 1 rfl) ?_
  refine lv_iconst (v := 0) hX hB dX9_bumpers_2 (by decide) ?_
  refine lv_iconst (v := 2) hX hB dX9_bumpers_3 (by decide) ?_
  refine z_callSi (isC := []) (isR := [0, 1]) (isO := [0, 1]) (()) (q_X9_in_t ) (fun o_1 => [(h0, .inr (11, [.ref h1, .ref h2, .ref h3, .ref h4, .ref h5, .int v1, .int v2, .int v3, .int v4, .int v5, .ref h6, .int v6, .ref h7, .ref h8, .ref h9, .int v7, .int v8, .int v9, .int v10, .int v11])), (h1, .inl (cy 0, 64, .inl (g)))]) (fun o_1 => 1) (c_X9_in_t l hE D cy  x i 0 0 2 2 hx (zlit 0) (zlit 2) (by omega) (by omega) (by omega)) hE C zs_X9_127 ⟨Nat.le_of_ble_eq_true rfl, Nat.le_of_ble_eq_true rfl⟩ hP hD hS hA hE0 ⟨rfl, rfl, rfl, by decide, rfl, rfl, rfl⟩ rfl hl.1 (Nat.le_of_ble_eq_true rfl) rfl dX9_bumpers_4 ⟨Nat.le_of_ble_eq_true rfl, Nat.le_of_ble_eq_true rfl⟩ (fun o_1 H locs eo_1 hP hD hS => ?_)
  refine lv_if_ne (tgt := 14) hX hB dX9_bumpers_7 (by decide) (fun _ => ?_) (fun c => absurd c (by decide))
  refine lv_iload_n hX hB dX9_bumpers_14 rfl (lv_at hl 2 rfl) ?_
  refine lv_iconst (v := 0) hX hB dX9_bumpers_15 (by decide) ?_
  refine lv_bipush (v := 50) hX hB dX9_bumpers_16 (by decide) ?_
  refine z_callSi (isC := []) (isR := [0, 1]) (isO := [0, 1]) (()) (q_X9_in_t ) (fun o_2 => [(h0, .inr (11, [.ref h1, .ref h2, .ref h3, .ref h4, .ref h5, .int v1, .int v2, .int v3, .int v4, .int v5, .ref h6, .int v6, .ref h7, .ref h8, .ref h9, .int v7, .int v8, .int v9, .int v10, .int v11])), (h1, .inl (cy 0, 64, .inl (g)))]) (fun o_2 => 1) (c_X9_in_t l hE D cy  y j 0 0 50 50 hy (zlit 0) (zlit 50) (by omega) (by omega) (by omega)) hE C zs_X9_127 ⟨Nat.le_of_ble_eq_true rfl, Nat.le_of_ble_eq_true rfl⟩ hP hD hS hA hE0 ⟨rfl, rfl, rfl, by decide, rfl, rfl, rfl⟩ rfl hl.1 (Nat.le_of_ble_eq_true rfl) rfl dX9_bumpers_18 ⟨Nat.le_of_ble_eq_true rfl, Nat.le_of_ble_eq_true rfl⟩ (fun o_2 H locs eo_2 hP hD hS => ?_)
  refine lv_if_ne (tgt := 28) hX hB dX9_bumpers_21 (by decide) (fun _ => ?_) (fun c => absurd c (by decide))
  refine lv_aload_n hX hB dX9_bumpers_28 rfl (lv_at hl 0 rfl) ?_
  refine z_callVi (isC := [0, 1]) (isR := []) (isO := [0, 1]) (()) (q_X9_runs_f cy h0 h1 h2 h3 h4 h5 h6 h7 h8 h9 v1 v2 v3 v4 v5 v6 v7 v8 v9 v10 v11 g) (fun o_3 => [(h0, .inr (11, [.ref h1, .ref h2, .ref h3, .ref h4, .ref h5, .int v1, .int v2, .int v3, .int v4, .int v5, .ref h6, .int v6, .ref h7, .ref h8, .ref h9, .int v7, .int v8, .int v9, .int v10, .int v11])), (h1, .inl (cy 0, 64, .inl (g)))]) (fun o_3 => 0) (c_X9_runs_f l hE D cy h0 h1 h2 h3 h4 h5 h6 h7 h8 h9 v1 v2 v3 v4 v5 v6 v7 v8 v9 v10 v11 g hr) hE C zs_X9_76 ⟨Nat.le_of_ble_eq_true rfl, Nat.le_of_ble_eq_true rfl⟩ hP hD hS hA hE0 ⟨rfl, rfl, rfl, by decide, rfl, rfl, rfl⟩ 0 rfl rfl rfl rfl hl.1 (Nat.le_of_ble_eq_true rfl) rfl dX9_bumpers_29 ⟨Nat.le_of_ble_eq_true rfl, Nat.le_of_ble_eq_true rfl⟩ (fun o_3 H locs eo_3 hP hD hS => ?_)
  refine lv_if_eq (tgt := 39) hX hB dX9_bumpers_32 (by decide) (fun _ => ?_) (fun c => absurd (by decide) c)
  refine lv_iconst (v := 3) hX hB dX9_bumpers_39 (by decide) ?_
  refine fp_X9_25 C hP hD hS 0 rfl rfl rfl (Nat.le_of_ble_eq_true rfl) (w' := [(h0, .inr (11, [.ref h1, .ref h2, .ref h3, .ref h4, .ref h5, .int 3, .int v2, .int v3, .int v4, .int v5, .ref h6, .int v6, .ref h7, .ref h8, .ref h9, .int v7, .int v8, .int v9, .int v10, .int v11])), (h1, .inl (cy 0, 64, .inl (g)))]) rfl dX9_bumpers_40 (fun H locs hP hD hS => ?_)
  refine lv_aload_n hX hB dX9_bumpers_43 rfl (lv_at hl 0 rfl) ?_
  refine fg_X9_25 C hP 0 rfl rfl dX9_bumpers_44 ?_
  refine lv_if_gt (tgt := 57) hX hB dX9_bumpers_47 (by decide) (fun _ => ?_) (fun c => absurd (by decide) c)
  refine lv_iconst (v := 0) hX hB dX9_bumpers_57 (by decide) ?_
  exact z_iret' 3 (w' := q_X9_bumpers_3 cy h0 h1 h2 h3 h4 h5 h6 h7 h8 h9 v2 v3 v4 v5 v6 v7 v8 v9 v10 v11 g) (r0 := (fun (o : Int32) => 0)) (by simp only [n_X9_bumpers_3]) C hRT hP hD hS (Nat.le_of_ble_eq_true rfl) (Nat.le_of_ble_eq_true rfl) rfl rfl dX9_bumpers_58

def n_X9_bumpers_2 (y : Int32) : Int32 :=
  let o_2 := n_X9_in y 0 50
  2
def q_X9_bumpers_2 (cy : Nat → ClassId) (h0 : Nat) (h1 : Nat) (h2 : Nat) (h3 : Nat) (h4 : Nat) (h5 : Nat) (h6 : Nat) (h7 : Nat) (h8 : Nat) (h9 : Nat) (v2 : Int32) (v3 : Int32) (v4 : Int32) (v5 : Int32) (v6 : Int32) (v7 : Int32) (v8 : Int32) (v9 : Int32) (v10 : Int32) (v11 : Int32) (g : Nat → Int32) (o : Int32) : va_W := [(h0, .inr (11, [.ref h1, .ref h2, .ref h3, .ref h4, .ref h5, .int o, .int v2, .int v3, .int v4, .int v5, .ref h6, .int v6, .ref h7, .ref h8, .ref h9, .int v7, .int v8, .int v9, .int v10, .int v11])), (h1, .inl (cy 0, 64, .inl (g)))]
set_option maxHeartbeats 4000000 in
set_option maxRecDepth 100000 in
theorem c_X9_bumpers_2 (l : Launch) {E : zEn} (hE : zEok E) (D : zG) (cy : Nat → ClassId) (h0 h1 h2 h3 h4 h5 h6 h7 h8 h9 : Nat) (v1 : Int32) (v2 : Int32) (v3 : Int32) (v4 : Int32) (v5 : Int32) (v6 : Int32) (v7 : Int32) (v8 : Int32) (v9 : Int32) (v10 : Int32) (v11 : Int32) (g : Nat → Int32) (x : Int32) (i : Nat) (y : Int32) (hx : zi x i) (hxb : i ≤ 2) (hin : n_X9_in y 0 50 = 0) (sz : Nat) : Met l yX9_bumpers (zws yX9_bumpers cX9_bumpers 6 (some .int)) { frames := 1, cells := 0, slots := 0, locals := 22 } (zPre E D cy [.ref h0, .int x, .int y] [(h0, .inr (11, [.ref h1, .ref h2, .ref h3, .ref h4, .ref h5, .int v1, .int v2, .int v3, .int v4, .int v5, .ref h6, .int v6, .ref h7, .ref h8, .ref h9, .int v7, .int v8, .int v9, .int v10, .int v11])), (h1, .inl (cy 0, 64, .inl (g)))] sz) (zQi D ((q_X9_bumpers_2 cy h0 h1 h2 h3 h4 h5 h6 h7 h8 h9 v2 v3 v4 v5 v6 v7 v8 v9 v10 v11 g) (n_X9_bumpers_2 y)) (va_A [(h0, .inr (11, [.ref h1, .ref h2, .ref h3, .ref h4, .ref h5, .int v1, .int v2, .int v3, .int v4, .int v5, .ref h6, .int v6, .ref h7, .ref h8, .ref h9, .int v7, .int v8, .int v9, .int v10, .int v11])), (h1, .inl (cy 0, 64, .inl (g)))] sz) (0)) 0 0 (va_A [(h0, .inr (11, [.ref h1, .ref h2, .ref h3, .ref h4, .ref h5, .int v1, .int v2, .int v3, .int v4, .int v5, .ref h6, .int v6, .ref h7, .ref h8, .ref h9, .int v7, .int v8, .int v9, .int v10, .int v11])), (h1, .inl (cy 0, 64, .inl (g)))] sz) := by
  refine z_of (Qc := fun A => zQi D ((q_X9_bumpers_2 cy h0 h1 h2 h3 h4 h5 h6 h7 h8 h9 v2 v3 v4 v5 v6 v7 v8 v9 v10 v11 g) (n_X9_bumpers_2 y)) A (0)) (by decide +kernel) (Nat.le_of_ble_eq_true rfl) rfl ?_
  intro pG eN sT mI below meth cO A ls C hRT hnm hA hP hD hS hE0 hl
  have hX := C.x
  have hB := C.b
  refine lv_aload_n hX hB dX9_bumpers_0 rfl (lv_at hl 0 rfl) ?_
  refine lv_iload_n hX hB dX9_bumpers_1 rfl (lv_at hl 1 rfl) ?_
  refine lv_iconst (v := 0) hX hB dX9_bumpers_2 (by decide) ?_
  refine lv_iconst (v := 2) hX hB dX9_bumpers_3 (by decide) ?_
  refine z_callSi (isC := []) (isR := [0, 1]) (isO := [0, 1]) (()) (q_X9_in_t ) (fun o_1 => [(h0, .inr (11, [.ref h1, .ref h2, .ref h3, .ref h4, .ref h5, .int v1, .int v2, .int v3, .int v4, .int v5, .ref h6, .int v6, .ref h7, .ref h8, .ref h9, .int v7, .int v8, .int v9, .int v10, .int v11])), (h1, .inl (cy 0, 64, .inl (g)))]) (fun o_1 => 1) (c_X9_in_t l hE D cy  x i 0 0 2 2 hx (zlit 0) (zlit 2) (by omega) (by omega) (by omega)) hE C zs_X9_127 ⟨Nat.le_of_ble_eq_true rfl, Nat.le_of_ble_eq_true rfl⟩ hP hD hS hA hE0 ⟨rfl, rfl, rfl, by decide, rfl, rfl, rfl⟩ rfl hl.1 (Nat.le_of_ble_eq_true rfl) rfl dX9_bumpers_4 ⟨Nat.le_of_ble_eq_true rfl, Nat.le_of_ble_eq_true rfl⟩ (fun o_1 H locs eo_1 hP hD hS => ?_)
  refine lv_if_ne (tgt := 14) hX hB dX9_bumpers_7 (by decide) (fun _ => ?_) (fun c => absurd c (by decide))
  refine lv_iload_n hX hB dX9_bumpers_14 rfl (lv_at hl 2 rfl) ?_
  refine lv_iconst (v := 0) hX hB dX9_bumpers_15 (by decide) ?_
  refine lv_bipush (v := 50) hX hB dX9_bumpers_16 (by decide) ?_
  refine z_callSi (isC := []) (isR := [0, 1]) (isO := [0, 1]) (n_X9_in y 0 50) (q_X9_in ) (fun o_2 => [(h0, .inr (11, [.ref h1, .ref h2, .ref h3, .ref h4, .ref h5, .int v1, .int v2, .int v3, .int v4, .int v5, .ref h6, .int v6, .ref h7, .ref h8, .ref h9, .int v7, .int v8, .int v9, .int v10, .int v11])), (h1, .inl (cy 0, 64, .inl (g)))]) (fun o_2 => o_2) (c_X9_in l hE D cy  y 0 50 ) hE C zs_X9_127 ⟨Nat.le_of_ble_eq_true rfl, Nat.le_of_ble_eq_true rfl⟩ hP hD hS hA hE0 ⟨rfl, rfl, rfl, by decide, rfl, rfl, rfl⟩ rfl hl.1 (Nat.le_of_ble_eq_true rfl) rfl dX9_bumpers_18 ⟨Nat.le_of_ble_eq_true rfl, Nat.le_of_ble_eq_true rfl⟩ (fun o_2 H locs eo_2 hP hD hS => ?_)
  refine lv_if_ne (tgt := 28) hX hB dX9_bumpers_21 (by decide) (fun c => absurd (by rw [eo_2]; exact hin) c) (fun _ => ?_)
  refine lv_iconst (v := 2) hX hB dX9_bumpers_24 (by decide) ?_
  refine lv_goto (tgt := 40) hX hB dX9_bumpers_25 (by decide) ?_
  refine fp_X9_25 C hP hD hS 0 rfl rfl rfl (Nat.le_of_ble_eq_true rfl) (w' := [(h0, .inr (11, [.ref h1, .ref h2, .ref h3, .ref h4, .ref h5, .int 2, .int v2, .int v3, .int v4, .int v5, .ref h6, .int v6, .ref h7, .ref h8, .ref h9, .int v7, .int v8, .int v9, .int v10, .int v11])), (h1, .inl (cy 0, 64, .inl (g)))]) rfl dX9_bumpers_40 (fun H locs hP hD hS => ?_)
  refine lv_aload_n hX hB dX9_bumpers_43 rfl (lv_at hl 0 rfl) ?_
  refine fg_X9_25 C hP 0 rfl rfl dX9_bumpers_44 ?_
  refine lv_if_gt (tgt := 57) hX hB dX9_bumpers_47 (by decide) (fun _ => ?_) (fun c => absurd (by decide) c)
  refine lv_iconst (v := 0) hX hB dX9_bumpers_57 (by decide) ?_
  exact z_iret' 2 (w' := q_X9_bumpers_2 cy h0 h1 h2 h3 h4 h5 h6 h7 h8 h9 v2 v3 v4 v5 v6 v7 v8 v9 v10 v11 g) (r0 := (fun (o : Int32) => 0)) (by simp only [n_X9_bumpers_2, ← eo_2]) C hRT hP hD hS (Nat.le_of_ble_eq_true rfl) (Nat.le_of_ble_eq_true rfl) rfl rfl dX9_bumpers_58

def n_X9_bumpers_1 (x : Int32) : Int32 :=
  let o_1 := n_X9_in x 0 2
  1
def q_X9_bumpers_1 (cy : Nat → ClassId) (h0 : Nat) (h1 : Nat) (h2 : Nat) (h3 : Nat) (h4 : Nat) (h5 : Nat) (h6 : Nat) (h7 : Nat) (h8 : Nat) (h9 : Nat) (v2 : Int32) (v3 : Int32) (v4 : Int32) (v5 : Int32) (v6 : Int32) (v7 : Int32) (v8 : Int32) (v9 : Int32) (v10 : Int32) (v11 : Int32) (g : Nat → Int32) (o : Int32) : va_W := [(h0, .inr (11, [.ref h1, .ref h2, .ref h3, .ref h4, .ref h5, .int o, .int v2, .int v3, .int v4, .int v5, .ref h6, .int v6, .ref h7, .ref h8, .ref h9, .int v7, .int v8, .int v9, .int v10, .int v11])), (h1, .inl (cy 0, 64, .inl (g)))]
set_option maxHeartbeats 4000000 in
set_option maxRecDepth 100000 in
theorem c_X9_bumpers_1 (l : Launch) {E : zEn} (hE : zEok E) (D : zG) (cy : Nat → ClassId) (h0 h1 h2 h3 h4 h5 h6 h7 h8 h9 : Nat) (v1 : Int32) (v2 : Int32) (v3 : Int32) (v4 : Int32) (v5 : Int32) (v6 : Int32) (v7 : Int32) (v8 : Int32) (v9 : Int32) (v10 : Int32) (v11 : Int32) (g : Nat → Int32) (x : Int32) (y : Int32) (hin : n_X9_in x 0 2 = 0) (sz : Nat) : Met l yX9_bumpers (zws yX9_bumpers cX9_bumpers 6 (some .int)) { frames := 1, cells := 0, slots := 0, locals := 22 } (zPre E D cy [.ref h0, .int x, .int y] [(h0, .inr (11, [.ref h1, .ref h2, .ref h3, .ref h4, .ref h5, .int v1, .int v2, .int v3, .int v4, .int v5, .ref h6, .int v6, .ref h7, .ref h8, .ref h9, .int v7, .int v8, .int v9, .int v10, .int v11])), (h1, .inl (cy 0, 64, .inl (g)))] sz) (zQi D ((q_X9_bumpers_1 cy h0 h1 h2 h3 h4 h5 h6 h7 h8 h9 v2 v3 v4 v5 v6 v7 v8 v9 v10 v11 g) (n_X9_bumpers_1 x)) (va_A [(h0, .inr (11, [.ref h1, .ref h2, .ref h3, .ref h4, .ref h5, .int v1, .int v2, .int v3, .int v4, .int v5, .ref h6, .int v6, .ref h7, .ref h8, .ref h9, .int v7, .int v8, .int v9, .int v10, .int v11])), (h1, .inl (cy 0, 64, .inl (g)))] sz) (0)) 0 0 (va_A [(h0, .inr (11, [.ref h1, .ref h2, .ref h3, .ref h4, .ref h5, .int v1, .int v2, .int v3, .int v4, .int v5, .ref h6, .int v6, .ref h7, .ref h8, .ref h9, .int v7, .int v8, .int v9, .int v10, .int v11])), (h1, .inl (cy 0, 64, .inl (g)))] sz) := by
  refine z_of (Qc := fun A => zQi D ((q_X9_bumpers_1 cy h0 h1 h2 h3 h4 h5 h6 h7 h8 h9 v2 v3 v4 v5 v6 v7 v8 v9 v10 v11 g) (n_X9_bumpers_1 x)) A (0)) (by decide +kernel) (Nat.le_of_ble_eq_true rfl) rfl ?_
  intro pG eN sT mI below meth cO A ls C hRT hnm hA hP hD hS hE0 hl
  have hX := C.x
  have hB := C.b
  refine lv_aload_n hX hB dX9_bumpers_0 rfl (lv_at hl 0 rfl) ?_
  refine lv_iload_n hX hB dX9_bumpers_1 rfl (lv_at hl 1 rfl) ?_
  refine lv_iconst (v := 0) hX hB dX9_bumpers_2 (by decide) ?_
  refine lv_iconst (v := 2) hX hB dX9_bumpers_3 (by decide) ?_
  refine z_callSi (isC := []) (isR := [0, 1]) (isO := [0, 1]) (n_X9_in x 0 2) (q_X9_in ) (fun o_1 => [(h0, .inr (11, [.ref h1, .ref h2, .ref h3, .ref h4, .ref h5, .int v1, .int v2, .int v3, .int v4, .int v5, .ref h6, .int v6, .ref h7, .ref h8, .ref h9, .int v7, .int v8, .int v9, .int v10, .int v11])), (h1, .inl (cy 0, 64, .inl (g)))]) (fun o_1 => o_1) (c_X9_in l hE D cy  x 0 2 ) hE C zs_X9_127 ⟨Nat.le_of_ble_eq_true rfl, Nat.le_of_ble_eq_true rfl⟩ hP hD hS hA hE0 ⟨rfl, rfl, rfl, by decide, rfl, rfl, rfl⟩ rfl hl.1 (Nat.le_of_ble_eq_true rfl) rfl dX9_bumpers_4 ⟨Nat.le_of_ble_eq_true rfl, Nat.le_of_ble_eq_true rfl⟩ (fun o_1 H locs eo_1 hP hD hS => ?_)
  refine lv_if_ne (tgt := 14) hX hB dX9_bumpers_7 (by decide) (fun c => absurd (by rw [eo_1]; exact hin) c) (fun _ => ?_)
  refine lv_iconst (v := 1) hX hB dX9_bumpers_10 (by decide) ?_
  refine lv_goto (tgt := 40) hX hB dX9_bumpers_11 (by decide) ?_
  refine fp_X9_25 C hP hD hS 0 rfl rfl rfl (Nat.le_of_ble_eq_true rfl) (w' := [(h0, .inr (11, [.ref h1, .ref h2, .ref h3, .ref h4, .ref h5, .int 1, .int v2, .int v3, .int v4, .int v5, .ref h6, .int v6, .ref h7, .ref h8, .ref h9, .int v7, .int v8, .int v9, .int v10, .int v11])), (h1, .inl (cy 0, 64, .inl (g)))]) rfl dX9_bumpers_40 (fun H locs hP hD hS => ?_)
  refine lv_aload_n hX hB dX9_bumpers_43 rfl (lv_at hl 0 rfl) ?_
  refine fg_X9_25 C hP 0 rfl rfl dX9_bumpers_44 ?_
  refine lv_if_gt (tgt := 57) hX hB dX9_bumpers_47 (by decide) (fun _ => ?_) (fun c => absurd (by decide) c)
  refine lv_iconst (v := 0) hX hB dX9_bumpers_57 (by decide) ?_
  exact z_iret' 1 (w' := q_X9_bumpers_1 cy h0 h1 h2 h3 h4 h5 h6 h7 h8 h9 v2 v3 v4 v5 v6 v7 v8 v9 v10 v11 g) (r0 := (fun (o : Int32) => 0)) (by simp only [n_X9_bumpers_1, ← eo_1]) C hRT hP hD hS (Nat.le_of_ble_eq_true rfl) (Nat.le_of_ble_eq_true rfl) rfl rfl dX9_bumpers_58

def n_X9_bumperRun_ok (g : Nat → Int32) (i : Nat) (y : Int32) : Int32 × Int32 :=
  let o_1 := n_X9_bumpers_ok g i y
  (o_1.1, o_1.2)
def q_X9_bumperRun_ok (cy : Nat → ClassId) (h0 : Nat) (h1 : Nat) (h2 : Nat) (h3 : Nat) (h4 : Nat) (h5 : Nat) (h6 : Nat) (h7 : Nat) (h8 : Nat) (h9 : Nat) (v2 : Int32) (v3 : Int32) (v4 : Int32) (v5 : Int32) (v6 : Int32) (v7 : Int32) (v8 : Int32) (v9 : Int32) (v10 : Int32) (v11 : Int32) (g : Nat → Int32) (o : Int32 × Int32) : va_W := [(h0, .inr (11, [.ref h1, .ref h2, .ref h3, .ref h4, .ref h5, .int o.2, .int v2, .int v3, .int v4, .int v5, .ref h6, .int v6, .ref h7, .ref h8, .ref h9, .int v7, .int v8, .int v9, .int v10, .int v11])), (h1, .inl (cy 0, 64, .inl (g)))]
set_option maxHeartbeats 4000000 in
set_option maxRecDepth 100000 in
theorem c_X9_bumperRun_ok (l : Launch) {E : zEn} (hE : zEok E) (D : zG) (cy : Nat → ClassId) (h0 h1 h2 h3 h4 h5 h6 h7 h8 h9 : Nat) (v1 : Int32) (v2 : Int32) (v3 : Int32) (v4 : Int32) (v5 : Int32) (v6 : Int32) (v7 : Int32) (v8 : Int32) (v9 : Int32) (v10 : Int32) (v11 : Int32) (g : Nat → Int32) (x : Int32) (i : Nat) (y : Int32) (j : Nat) (hx : zi x i) (hxb : i ≤ 2) (hy : zi y j) (hyb : j ≤ 50) (hr : g 0 = 1) (sz : Nat) : Met l yX9_bumperRun (zws yX9_bumperRun cX9_bumperRun 3 (some .int)) { frames := 2, cells := 0, slots := 0, locals := 47 } (zPre E D cy [.ref h0, .int x, .int y] [(h0, .inr (11, [.ref h1, .ref h2, .ref h3, .ref h4, .ref h5, .int v1, .int v2, .int v3, .int v4, .int v5, .ref h6, .int v6, .ref h7, .ref h8, .ref h9, .int v7, .int v8, .int v9, .int v10, .int v11])), (h1, .inl (cy 0, 64, .inl (g)))] sz) (zQi D ((q_X9_bumperRun_ok cy h0 h1 h2 h3 h4 h5 h6 h7 h8 h9 v2 v3 v4 v5 v6 v7 v8 v9 v10 v11 g) (n_X9_bumperRun_ok g i y)) (va_A [(h0, .inr (11, [.ref h1, .ref h2, .ref h3, .ref h4, .ref h5, .int v1, .int v2, .int v3, .int v4, .int v5, .ref h6, .int v6, .ref h7, .ref h8, .ref h9, .int v7, .int v8, .int v9, .int v10, .int v11])), (h1, .inl (cy 0, 64, .inl (g)))] sz) ((n_X9_bumperRun_ok g i y).1)) 0 0 (va_A [(h0, .inr (11, [.ref h1, .ref h2, .ref h3, .ref h4, .ref h5, .int v1, .int v2, .int v3, .int v4, .int v5, .ref h6, .int v6, .ref h7, .ref h8, .ref h9, .int v7, .int v8, .int v9, .int v10, .int v11])), (h1, .inl (cy 0, 64, .inl (g)))] sz) := by
  refine z_of (Qc := fun A => zQi D ((q_X9_bumperRun_ok cy h0 h1 h2 h3 h4 h5 h6 h7 h8 h9 v2 v3 v4 v5 v6 v7 v8 v9 v10 v11 g) (n_X9_bumperRun_ok g i y)) A ((n_X9_bumperRun_ok g i y).1)) (by decide +kernel) (Nat.le_of_ble_eq_true rfl) rfl ?_
  intro pG eN sT mI below meth cO A ls C hRT hnm hA hP hD hS hE0 hl
  have hX := C.x
  have hB := C.b
  refine lv_aload_n hX hB dX9_bumperRun_0 rfl (lv_at hl 0 rfl) ?_
  refine lv_iload_n hX hB dX9_bumperRun_1 rfl (lv_at hl 1 rfl) ?_
  refine lv_iload_n hX hB dX9_bumperRun_2 rfl (lv_at hl 2 rfl) ?_
  refine z_callVi (isC := [0, 1]) (isR := []) (isO := [0, 1]) (n_X9_bumpers_ok g i y) (q_X9_bumpers_ok cy h0 h1 h2 h3 h4 h5 h6 h7 h8 h9 v2 v3 v4 v5 v6 v7 v8 v9 v10 v11 g) (fun o_1 => [(h0, .inr (11, [.ref h1, .ref h2, .ref h3, .ref h4, .ref h5, .int o_1.2, .int v2, .int v3, .int v4, .int v5, .ref h6, .int v6, .ref h7, .ref h8, .ref h9, .int v7, .int v8, .int v9, .int v10, .int v11])), (h1, .inl (cy 0, 64, .inl (g)))]) (fun o_1 => o_1.1) (c_X9_bumpers_ok l hE D cy h0 h1 h2 h3 h4 h5 h6 h7 h8 h9 v1 v2 v3 v4 v5 v6 v7 v8 v9 v10 v11 g x i y j hx (by omega) hy (by omega) hr) hE C zs_X9_184 ⟨Nat.le_of_ble_eq_true rfl, Nat.le_of_ble_eq_true rfl⟩ hP hD hS hA hE0 ⟨rfl, rfl, rfl, by decide, rfl, rfl, rfl⟩ 0 rfl rfl rfl rfl hl.1 (Nat.le_of_ble_eq_true rfl) rfl dX9_bumperRun_3 ⟨Nat.le_of_ble_eq_true rfl, Nat.le_of_ble_eq_true rfl⟩ (fun o_1 H locs eo_1 hP hD hS => ?_)
  exact z_iret' (o_1.1, o_1.2) (w' := q_X9_bumperRun_ok cy h0 h1 h2 h3 h4 h5 h6 h7 h8 h9 v2 v3 v4 v5 v6 v7 v8 v9 v10 v11 g) (r0 := (fun (o : Int32 × Int32) => o.1)) (by simp only [n_X9_bumperRun_ok, ← eo_1]) C hRT hP hD hS (Nat.le_of_ble_eq_true rfl) (Nat.le_of_ble_eq_true rfl) rfl rfl dX9_bumperRun_6

def n_X9_bumperRun_3  : Int32 :=
  let o_1 := n_X9_bumpers_3
  o_1
def q_X9_bumperRun_3 (cy : Nat → ClassId) (h0 : Nat) (h1 : Nat) (h2 : Nat) (h3 : Nat) (h4 : Nat) (h5 : Nat) (h6 : Nat) (h7 : Nat) (h8 : Nat) (h9 : Nat) (v2 : Int32) (v3 : Int32) (v4 : Int32) (v5 : Int32) (v6 : Int32) (v7 : Int32) (v8 : Int32) (v9 : Int32) (v10 : Int32) (v11 : Int32) (g : Nat → Int32) (o : Int32) : va_W := [(h0, .inr (11, [.ref h1, .ref h2, .ref h3, .ref h4, .ref h5, .int o, .int v2, .int v3, .int v4, .int v5, .ref h6, .int v6, .ref h7, .ref h8, .ref h9, .int v7, .int v8, .int v9, .int v10, .int v11])), (h1, .inl (cy 0, 64, .inl (g)))]
set_option maxHeartbeats 4000000 in
set_option maxRecDepth 100000 in
theorem c_X9_bumperRun_3 (l : Launch) {E : zEn} (hE : zEok E) (D : zG) (cy : Nat → ClassId) (h0 h1 h2 h3 h4 h5 h6 h7 h8 h9 : Nat) (v1 : Int32) (v2 : Int32) (v3 : Int32) (v4 : Int32) (v5 : Int32) (v6 : Int32) (v7 : Int32) (v8 : Int32) (v9 : Int32) (v10 : Int32) (v11 : Int32) (g : Nat → Int32) (x : Int32) (i : Nat) (y : Int32) (j : Nat) (hx : zi x i) (hxb : i ≤ 2) (hy : zi y j) (hyb : j ≤ 50) (hr : ¬ g 0 = 1) (sz : Nat) : Met l yX9_bumperRun (zws yX9_bumperRun cX9_bumperRun 3 (some .int)) { frames := 2, cells := 0, slots := 0, locals := 47 } (zPre E D cy [.ref h0, .int x, .int y] [(h0, .inr (11, [.ref h1, .ref h2, .ref h3, .ref h4, .ref h5, .int v1, .int v2, .int v3, .int v4, .int v5, .ref h6, .int v6, .ref h7, .ref h8, .ref h9, .int v7, .int v8, .int v9, .int v10, .int v11])), (h1, .inl (cy 0, 64, .inl (g)))] sz) (zQi D ((q_X9_bumperRun_3 cy h0 h1 h2 h3 h4 h5 h6 h7 h8 h9 v2 v3 v4 v5 v6 v7 v8 v9 v10 v11 g) n_X9_bumperRun_3) (va_A [(h0, .inr (11, [.ref h1, .ref h2, .ref h3, .ref h4, .ref h5, .int v1, .int v2, .int v3, .int v4, .int v5, .ref h6, .int v6, .ref h7, .ref h8, .ref h9, .int v7, .int v8, .int v9, .int v10, .int v11])), (h1, .inl (cy 0, 64, .inl (g)))] sz) (0)) 0 0 (va_A [(h0, .inr (11, [.ref h1, .ref h2, .ref h3, .ref h4, .ref h5, .int v1, .int v2, .int v3, .int v4, .int v5, .ref h6, .int v6, .ref h7, .ref h8, .ref h9, .int v7, .int v8, .int v9, .int v10, .int v11])), (h1, .inl (cy 0, 64, .inl (g)))] sz) := by
  refine z_of (Qc := fun A => zQi D ((q_X9_bumperRun_3 cy h0 h1 h2 h3 h4 h5 h6 h7 h8 h9 v2 v3 v4 v5 v6 v7 v8 v9 v10 v11 g) n_X9_bumperRun_3) A (0)) (by decide +kernel) (Nat.le_of_ble_eq_true rfl) rfl ?_
  intro pG eN sT mI below meth cO A ls C hRT hnm hA hP hD hS hE0 hl
  have hX := C.x
  have hB := C.b
  refine lv_aload_n hX hB dX9_bumperRun_0 rfl (lv_at hl 0 rfl) ?_
  refine lv_iload_n hX hB dX9_bumperRun_1 rfl (lv_at hl 1 rfl) ?_
  refine lv_iload_n hX hB dX9_bumperRun_2 rfl (lv_at hl 2 rfl) ?_
  refine z_callVi (isC := [0, 1]) (isR := []) (isO := [0, 1]) (n_X9_bumpers_3) (q_X9_bumpers_3 cy h0 h1 h2 h3 h4 h5 h6 h7 h8 h9 v2 v3 v4 v5 v6 v7 v8 v9 v10 v11 g) (fun o_1 => [(h0, .inr (11, [.ref h1, .ref h2, .ref h3, .ref h4, .ref h5, .int o_1, .int v2, .int v3, .int v4, .int v5, .ref h6, .int v6, .ref h7, .ref h8, .ref h9, .int v7, .int v8, .int v9, .int v10, .int v11])), (h1, .inl (cy 0, 64, .inl (g)))]) (fun o_1 => 0) (c_X9_bumpers_3 l hE D cy h0 h1 h2 h3 h4 h5 h6 h7 h8 h9 v1 v2 v3 v4 v5 v6 v7 v8 v9 v10 v11 g x i y j hx (by omega) hy (by omega) hr) hE C zs_X9_184 ⟨Nat.le_of_ble_eq_true rfl, Nat.le_of_ble_eq_true rfl⟩ hP hD hS hA hE0 ⟨rfl, rfl, rfl, by decide, rfl, rfl, rfl⟩ 0 rfl rfl rfl rfl hl.1 (Nat.le_of_ble_eq_true rfl) rfl dX9_bumperRun_3 ⟨Nat.le_of_ble_eq_true rfl, Nat.le_of_ble_eq_true rfl⟩ (fun o_1 H locs eo_1 hP hD hS => ?_)
  exact z_iret' o_1 (w' := q_X9_bumperRun_3 cy h0 h1 h2 h3 h4 h5 h6 h7 h8 h9 v2 v3 v4 v5 v6 v7 v8 v9 v10 v11 g) (r0 := (fun (o : Int32) => 0)) (by simp only [n_X9_bumperRun_3, ← eo_1]) C hRT hP hD hS (Nat.le_of_ble_eq_true rfl) (Nat.le_of_ble_eq_true rfl) rfl rfl dX9_bumperRun_6

def n_X9_bumperRun_2 (y : Int32) : Int32 :=
  let o_1 := n_X9_bumpers_2 y
  o_1
def q_X9_bumperRun_2 (cy : Nat → ClassId) (h0 : Nat) (h1 : Nat) (h2 : Nat) (h3 : Nat) (h4 : Nat) (h5 : Nat) (h6 : Nat) (h7 : Nat) (h8 : Nat) (h9 : Nat) (v2 : Int32) (v3 : Int32) (v4 : Int32) (v5 : Int32) (v6 : Int32) (v7 : Int32) (v8 : Int32) (v9 : Int32) (v10 : Int32) (v11 : Int32) (g : Nat → Int32) (o : Int32) : va_W := [(h0, .inr (11, [.ref h1, .ref h2, .ref h3, .ref h4, .ref h5, .int o, .int v2, .int v3, .int v4, .int v5, .ref h6, .int v6, .ref h7, .ref h8, .ref h9, .int v7, .int v8, .int v9, .int v10, .int v11])), (h1, .inl (cy 0, 64, .inl (g)))]
set_option maxHeartbeats 4000000 in
set_option maxRecDepth 100000 in
theorem c_X9_bumperRun_2 (l : Launch) {E : zEn} (hE : zEok E) (D : zG) (cy : Nat → ClassId) (h0 h1 h2 h3 h4 h5 h6 h7 h8 h9 : Nat) (v1 : Int32) (v2 : Int32) (v3 : Int32) (v4 : Int32) (v5 : Int32) (v6 : Int32) (v7 : Int32) (v8 : Int32) (v9 : Int32) (v10 : Int32) (v11 : Int32) (g : Nat → Int32) (x : Int32) (i : Nat) (y : Int32) (hx : zi x i) (hxb : i ≤ 2) (hin : n_X9_in y 0 50 = 0) (sz : Nat) : Met l yX9_bumperRun (zws yX9_bumperRun cX9_bumperRun 3 (some .int)) { frames := 2, cells := 0, slots := 0, locals := 47 } (zPre E D cy [.ref h0, .int x, .int y] [(h0, .inr (11, [.ref h1, .ref h2, .ref h3, .ref h4, .ref h5, .int v1, .int v2, .int v3, .int v4, .int v5, .ref h6, .int v6, .ref h7, .ref h8, .ref h9, .int v7, .int v8, .int v9, .int v10, .int v11])), (h1, .inl (cy 0, 64, .inl (g)))] sz) (zQi D ((q_X9_bumperRun_2 cy h0 h1 h2 h3 h4 h5 h6 h7 h8 h9 v2 v3 v4 v5 v6 v7 v8 v9 v10 v11 g) (n_X9_bumperRun_2 y)) (va_A [(h0, .inr (11, [.ref h1, .ref h2, .ref h3, .ref h4, .ref h5, .int v1, .int v2, .int v3, .int v4, .int v5, .ref h6, .int v6, .ref h7, .ref h8, .ref h9, .int v7, .int v8, .int v9, .int v10, .int v11])), (h1, .inl (cy 0, 64, .inl (g)))] sz) (0)) 0 0 (va_A [(h0, .inr (11, [.ref h1, .ref h2, .ref h3, .ref h4, .ref h5, .int v1, .int v2, .int v3, .int v4, .int v5, .ref h6, .int v6, .ref h7, .ref h8, .ref h9, .int v7, .int v8, .int v9, .int v10, .int v11])), (h1, .inl (cy 0, 64, .inl (g)))] sz) := by
  refine z_of (Qc := fun A => zQi D ((q_X9_bumperRun_2 cy h0 h1 h2 h3 h4 h5 h6 h7 h8 h9 v2 v3 v4 v5 v6 v7 v8 v9 v10 v11 g) (n_X9_bumperRun_2 y)) A (0)) (by decide +kernel) (Nat.le_of_ble_eq_true rfl) rfl ?_
  intro pG eN sT mI below meth cO A ls C hRT hnm hA hP hD hS hE0 hl
  have hX := C.x
  have hB := C.b
  refine lv_aload_n hX hB dX9_bumperRun_0 rfl (lv_at hl 0 rfl) ?_
  refine lv_iload_n hX hB dX9_bumperRun_1 rfl (lv_at hl 1 rfl) ?_
  refine lv_iload_n hX hB dX9_bumperRun_2 rfl (lv_at hl 2 rfl) ?_
  refine z_callVi (isC := [0, 1]) (isR := []) (isO := [0, 1]) (n_X9_bumpers_2 y) (q_X9_bumpers_2 cy h0 h1 h2 h3 h4 h5 h6 h7 h8 h9 v2 v3 v4 v5 v6 v7 v8 v9 v10 v11 g) (fun o_1 => [(h0, .inr (11, [.ref h1, .ref h2, .ref h3, .ref h4, .ref h5, .int o_1, .int v2, .int v3, .int v4, .int v5, .ref h6, .int v6, .ref h7, .ref h8, .ref h9, .int v7, .int v8, .int v9, .int v10, .int v11])), (h1, .inl (cy 0, 64, .inl (g)))]) (fun o_1 => 0) (c_X9_bumpers_2 l hE D cy h0 h1 h2 h3 h4 h5 h6 h7 h8 h9 v1 v2 v3 v4 v5 v6 v7 v8 v9 v10 v11 g x i y hx (by omega) hin) hE C zs_X9_184 ⟨Nat.le_of_ble_eq_true rfl, Nat.le_of_ble_eq_true rfl⟩ hP hD hS hA hE0 ⟨rfl, rfl, rfl, by decide, rfl, rfl, rfl⟩ 0 rfl rfl rfl rfl hl.1 (Nat.le_of_ble_eq_true rfl) rfl dX9_bumperRun_3 ⟨Nat.le_of_ble_eq_true rfl, Nat.le_of_ble_eq_true rfl⟩ (fun o_1 H locs eo_1 hP hD hS => ?_)
  exact z_iret' o_1 (w' := q_X9_bumperRun_2 cy h0 h1 h2 h3 h4 h5 h6 h7 h8 h9 v2 v3 v4 v5 v6 v7 v8 v9 v10 v11 g) (r0 := (fun (o : Int32) => 0)) (by simp only [n_X9_bumperRun_2, ← eo_1]) C hRT hP hD hS (Nat.le_of_ble_eq_true rfl) (Nat.le_of_ble_eq_true rfl) rfl rfl dX9_bumperRun_6

def n_X9_bumperRun_1 (x : Int32) : Int32 :=
  let o_1 := n_X9_bumpers_1 x
  o_1
def q_X9_bumperRun_1 (cy : Nat → ClassId) (h0 : Nat) (h1 : Nat) (h2 : Nat) (h3 : Nat) (h4 : Nat) (h5 : Nat) (h6 : Nat) (h7 : Nat) (h8 : Nat) (h9 : Nat) (v2 : Int32) (v3 : Int32) (v4 : Int32) (v5 : Int32) (v6 : Int32) (v7 : Int32) (v8 : Int32) (v9 : Int32) (v10 : Int32) (v11 : Int32) (g : Nat → Int32) (o : Int32) : va_W := [(h0, .inr (11, [.ref h1, .ref h2, .ref h3, .ref h4, .ref h5, .int o, .int v2, .int v3, .int v4, .int v5, .ref h6, .int v6, .ref h7, .ref h8, .ref h9, .int v7, .int v8, .int v9, .int v10, .int v11])), (h1, .inl (cy 0, 64, .inl (g)))]
set_option maxHeartbeats 4000000 in
set_option maxRecDepth 100000 in
theorem c_X9_bumperRun_1 (l : Launch) {E : zEn} (hE : zEok E) (D : zG) (cy : Nat → ClassId) (h0 h1 h2 h3 h4 h5 h6 h7 h8 h9 : Nat) (v1 : Int32) (v2 : Int32) (v3 : Int32) (v4 : Int32) (v5 : Int32) (v6 : Int32) (v7 : Int32) (v8 : Int32) (v9 : Int32) (v10 : Int32) (v11 : Int32) (g : Nat → Int32) (x : Int32) (y : Int32) (hin : n_X9_in x 0 2 = 0) (sz : Nat) : Met l yX9_bumperRun (zws yX9_bumperRun cX9_bumperRun 3 (some .int)) { frames := 2, cells := 0, slots := 0, locals := 47 } (zPre E D cy [.ref h0, .int x, .int y] [(h0, .inr (11, [.ref h1, .ref h2, .ref h3, .ref h4, .ref h5, .int v1, .int v2, .int v3, .int v4, .int v5, .ref h6, .int v6, .ref h7, .ref h8, .ref h9, .int v7, .int v8, .int v9, .int v10, .int v11])), (h1, .inl (cy 0, 64, .inl (g)))] sz) (zQi D ((q_X9_bumperRun_1 cy h0 h1 h2 h3 h4 h5 h6 h7 h8 h9 v2 v3 v4 v5 v6 v7 v8 v9 v10 v11 g) (n_X9_bumperRun_1 x)) (va_A [(h0, .inr (11, [.ref h1, .ref h2, .ref h3, .ref h4, .ref h5, .int v1, .int v2, .int v3, .int v4, .int v5, .ref h6, .int v6, .ref h7, .ref h8, .ref h9, .int v7, .int v8, .int v9, .int v10, .int v11])), (h1, .inl (cy 0, 64, .inl (g)))] sz) (0)) 0 0 (va_A [(h0, .inr (11, [.ref h1, .ref h2, .ref h3, .ref h4, .ref h5, .int v1, .int v2, .int v3, .int v4, .int v5, .ref h6, .int v6, .ref h7, .ref h8, .ref h9, .int v7, .int v8, .int v9, .int v10, .int v11])), (h1, .inl (cy 0, 64, .inl (g)))] sz) := by
  refine z_of (Qc := fun A => zQi D ((q_X9_bumperRun_1 cy h0 h1 h2 h3 h4 h5 h6 h7 h8 h9 v2 v3 v4 v5 v6 v7 v8 v9 v10 v11 g) (n_X9_bumperRun_1 x)) A (0)) (by decide +kernel) (Nat.le_of_ble_eq_true rfl) rfl ?_
  intro pG eN sT mI below meth cO A ls C hRT hnm hA hP hD hS hE0 hl
  have hX := C.x
  have hB := C.b
  refine lv_aload_n hX hB dX9_bumperRun_0 rfl (lv_at hl 0 rfl) ?_
  refine lv_iload_n hX hB dX9_bumperRun_1 rfl (lv_at hl 1 rfl) ?_
  refine lv_iload_n hX hB dX9_bumperRun_2 rfl (lv_at hl 2 rfl) ?_
  refine z_callVi (isC := [0, 1]) (isR := []) (isO := [0, 1]) (n_X9_bumpers_1 x) (q_X9_bumpers_1 cy h0 h1 h2 h3 h4 h5 h6 h7 h8 h9 v2 v3 v4 v5 v6 v7 v8 v9 v10 v11 g) (fun o_1 => [(h0, .inr (11, [.ref h1, .ref h2, .ref h3, .ref h4, .ref h5, .int o_1, .int v2, .int v3, .int v4, .int v5, .ref h6, .int v6, .ref h7, .ref h8, .ref h9, .int v7, .int v8, .int v9, .int v10, .int v11])), (h1, .inl (cy 0, 64, .inl (g)))]) (fun o_1 => 0) (c_X9_bumpers_1 l hE D cy h0 h1 h2 h3 h4 h5 h6 h7 h8 h9 v1 v2 v3 v4 v5 v6 v7 v8 v9 v10 v11 g x y hin) hE C zs_X9_184 ⟨Nat.le_of_ble_eq_true rfl, Nat.le_of_ble_eq_true rfl⟩ hP hD hS hA hE0 ⟨rfl, rfl, rfl, by decide, rfl, rfl, rfl⟩ 0 rfl rfl rfl rfl hl.1 (Nat.le_of_ble_eq_true rfl) rfl dX9_bumperRun_3 ⟨Nat.le_of_ble_eq_true rfl, Nat.le_of_ble_eq_true rfl⟩ (fun o_1 H locs eo_1 hP hD hS => ?_)
  exact z_iret' o_1 (w' := q_X9_bumperRun_1 cy h0 h1 h2 h3 h4 h5 h6 h7 h8 h9 v2 v3 v4 v5 v6 v7 v8 v9 v10 v11 g) (r0 := (fun (o : Int32) => 0)) (by simp only [n_X9_bumperRun_1, ← eo_1]) C hRT hP hD hS (Nat.le_of_ble_eq_true rfl) (Nat.le_of_ble_eq_true rfl) rfl rfl dX9_bumperRun_6

def n_X9_bumperRunBySeries_ok (g : Nat → Int32) (i : Nat) (y : Int32) : Int32 × Int32 :=
  let o_1 := n_X9_bumpers_ok g i y
  (o_1.1, o_1.2)
def q_X9_bumperRunBySeries_ok (cy : Nat → ClassId) (h0 : Nat) (h1 : Nat) (h2 : Nat) (h3 : Nat) (h4 : Nat) (h5 : Nat) (h6 : Nat) (h7 : Nat) (h8 : Nat) (h9 : Nat) (v2 : Int32) (v3 : Int32) (v4 : Int32) (v5 : Int32) (v6 : Int32) (v7 : Int32) (v8 : Int32) (v9 : Int32) (v10 : Int32) (v11 : Int32) (g : Nat → Int32) (o : Int32 × Int32) : va_W := [(h0, .inr (11, [.ref h1, .ref h2, .ref h3, .ref h4, .ref h5, .int o.2, .int v2, .int v3, .int v4, .int v5, .ref h6, .int v6, .ref h7, .ref h8, .ref h9, .int v7, .int v8, .int v9, .int v10, .int v11])), (h1, .inl (cy 0, 64, .inl (g)))]
set_option maxHeartbeats 4000000 in
set_option maxRecDepth 100000 in
theorem c_X9_bumperRunBySeries_ok (l : Launch) {E : zEn} (hE : zEok E) (D : zG) (cy : Nat → ClassId) (h0 h1 h2 h3 h4 h5 h6 h7 h8 h9 : Nat) (v1 : Int32) (v2 : Int32) (v3 : Int32) (v4 : Int32) (v5 : Int32) (v6 : Int32) (v7 : Int32) (v8 : Int32) (v9 : Int32) (v10 : Int32) (v11 : Int32) (g : Nat → Int32) (x : Int32) (i : Nat) (y : Int32) (j : Nat) (hx : zi x i) (hxb : i ≤ 2) (hy : zi y j) (hyb : j ≤ 50) (hr : g 0 = 1) (sz : Nat) : Met l yX9_bumperRunBySeries (zws yX9_bumperRunBySeries cX9_bumperRunBySeries 3 (some .int)) { frames := 2, cells := 0, slots := 0, locals := 47 } (zPre E D cy [.ref h0, .int x, .int y] [(h0, .inr (11, [.ref h1, .ref h2, .ref h3, .ref h4, .ref h5, .int v1, .int v2, .int v3, .int v4, .int v5, .ref h6, .int v6, .ref h7, .ref h8, .ref h9, .int v7, .int v8, .int v9, .int v10, .int v11])), (h1, .inl (cy 0, 64, .inl (g)))] sz) (zQi D ((q_X9_bumperRunBySeries_ok cy h0 h1 h2 h3 h4 h5 h6 h7 h8 h9 v2 v3 v4 v5 v6 v7 v8 v9 v10 v11 g) (n_X9_bumperRunBySeries_ok g i y)) (va_A [(h0, .inr (11, [.ref h1, .ref h2, .ref h3, .ref h4, .ref h5, .int v1, .int v2, .int v3, .int v4, .int v5, .ref h6, .int v6, .ref h7, .ref h8, .ref h9, .int v7, .int v8, .int v9, .int v10, .int v11])), (h1, .inl (cy 0, 64, .inl (g)))] sz) ((n_X9_bumperRunBySeries_ok g i y).1)) 0 0 (va_A [(h0, .inr (11, [.ref h1, .ref h2, .ref h3, .ref h4, .ref h5, .int v1, .int v2, .int v3, .int v4, .int v5, .ref h6, .int v6, .ref h7, .ref h8, .ref h9, .int v7, .int v8, .int v9, .int v10, .int v11])), (h1, .inl (cy 0, 64, .inl (g)))] sz) := by
  refine z_of (Qc := fun A => zQi D ((q_X9_bumperRunBySeries_ok cy h0 h1 h2 h3 h4 h5 h6 h7 h8 h9 v2 v3 v4 v5 v6 v7 v8 v9 v10 v11 g) (n_X9_bumperRunBySeries_ok g i y)) A ((n_X9_bumperRunBySeries_ok g i y).1)) (by decide +kernel) (Nat.le_of_ble_eq_true rfl) rfl ?_
  intro pG eN sT mI below meth cO A ls C hRT hnm hA hP hD hS hE0 hl
  have hX := C.x
  have hB := C.b
  refine lv_aload_n hX hB dX9_bumperRunBySeries_0 rfl (lv_at hl 0 rfl) ?_
  refine lv_iload_n hX hB dX9_bumperRunBySeries_1 rfl (lv_at hl 1 rfl) ?_
  refine lv_iload_n hX hB dX9_bumperRunBySeries_2 rfl (lv_at hl 2 rfl) ?_
  refine z_callVi (isC := [0, 1]) (isR := []) (isO := [0, 1]) (n_X9_bumpers_ok g i y) (q_X9_bumpers_ok cy h0 h1 h2 h3 h4 h5 h6 h7 h8 h9 v2 v3 v4 v5 v6 v7 v8 v9 v10 v11 g) (fun o_1 => [(h0, .inr (11, [.ref h1, .ref h2, .ref h3, .ref h4, .ref h5, .int o_1.2, .int v2, .int v3, .int v4, .int v5, .ref h6, .int v6, .ref h7, .ref h8, .ref h9, .int v7, .int v8, .int v9, .int v10, .int v11])), (h1, .inl (cy 0, 64, .inl (g)))]) (fun o_1 => o_1.1) (c_X9_bumpers_ok l hE D cy h0 h1 h2 h3 h4 h5 h6 h7 h8 h9 v1 v2 v3 v4 v5 v6 v7 v8 v9 v10 v11 g x i y j hx (by omega) hy (by omega) hr) hE C zs_X9_184 ⟨Nat.le_of_ble_eq_true rfl, Nat.le_of_ble_eq_true rfl⟩ hP hD hS hA hE0 ⟨rfl, rfl, rfl, by decide, rfl, rfl, rfl⟩ 0 rfl rfl rfl rfl hl.1 (Nat.le_of_ble_eq_true rfl) rfl dX9_bumperRunBySeries_3 ⟨Nat.le_of_ble_eq_true rfl, Nat.le_of_ble_eq_true rfl⟩ (fun o_1 H locs eo_1 hP hD hS => ?_)
  exact z_iret' (o_1.1, o_1.2) (w' := q_X9_bumperRunBySeries_ok cy h0 h1 h2 h3 h4 h5 h6 h7 h8 h9 v2 v3 v4 v5 v6 v7 v8 v9 v10 v11 g) (r0 := (fun (o : Int32 × Int32) => o.1)) (by simp only [n_X9_bumperRunBySeries_ok, ← eo_1]) C hRT hP hD hS (Nat.le_of_ble_eq_true rfl) (Nat.le_of_ble_eq_true rfl) rfl rfl dX9_bumperRunBySeries_6

def n_X9_bumperRunBySeries_3  : Int32 :=
  let o_1 := n_X9_bumpers_3
  o_1
def q_X9_bumperRunBySeries_3 (cy : Nat → ClassId) (h0 : Nat) (h1 : Nat) (h2 : Nat) (h3 : Nat) (h4 : Nat) (h5 : Nat) (h6 : Nat) (h7 : Nat) (h8 : Nat) (h9 : Nat) (v2 : Int32) (v3 : Int32) (v4 : Int32) (v5 : Int32) (v6 : Int32) (v7 : Int32) (v8 : Int32) (v9 : Int32) (v10 : Int32) (v11 : Int32) (g : Nat → Int32) (o : Int32) : va_W := [(h0, .inr (11, [.ref h1, .ref h2, .ref h3, .ref h4, .ref h5, .int o, .int v2, .int v3, .int v4, .int v5, .ref h6, .int v6, .ref h7, .ref h8, .ref h9, .int v7, .int v8, .int v9, .int v10, .int v11])), (h1, .inl (cy 0, 64, .inl (g)))]
set_option maxHeartbeats 4000000 in
set_option maxRecDepth 100000 in
theorem c_X9_bumperRunBySeries_3 (l : Launch) {E : zEn} (hE : zEok E) (D : zG) (cy : Nat → ClassId) (h0 h1 h2 h3 h4 h5 h6 h7 h8 h9 : Nat) (v1 : Int32) (v2 : Int32) (v3 : Int32) (v4 : Int32) (v5 : Int32) (v6 : Int32) (v7 : Int32) (v8 : Int32) (v9 : Int32) (v10 : Int32) (v11 : Int32) (g : Nat → Int32) (x : Int32) (i : Nat) (y : Int32) (j : Nat) (hx : zi x i) (hxb : i ≤ 2) (hy : zi y j) (hyb : j ≤ 50) (hr : ¬ g 0 = 1) (sz : Nat) : Met l yX9_bumperRunBySeries (zws yX9_bumperRunBySeries cX9_bumperRunBySeries 3 (some .int)) { frames := 2, cells := 0, slots := 0, locals := 47 } (zPre E D cy [.ref h0, .int x, .int y] [(h0, .inr (11, [.ref h1, .ref h2, .ref h3, .ref h4, .ref h5, .int v1, .int v2, .int v3, .int v4, .int v5, .ref h6, .int v6, .ref h7, .ref h8, .ref h9, .int v7, .int v8, .int v9, .int v10, .int v11])), (h1, .inl (cy 0, 64, .inl (g)))] sz) (zQi D ((q_X9_bumperRunBySeries_3 cy h0 h1 h2 h3 h4 h5 h6 h7 h8 h9 v2 v3 v4 v5 v6 v7 v8 v9 v10 v11 g) n_X9_bumperRunBySeries_3) (va_A [(h0, .inr (11, [.ref h1, .ref h2, .ref h3, .ref h4, .ref h5, .int v1, .int v2, .int v3, .int v4, .int v5, .ref h6, .int v6, .ref h7, .ref h8, .ref h9, .int v7, .int v8, .int v9, .int v10, .int v11])), (h1, .inl (cy 0, 64, .inl (g)))] sz) (0)) 0 0 (va_A [(h0, .inr (11, [.ref h1, .ref h2, .ref h3, .ref h4, .ref h5, .int v1, .int v2, .int v3, .int v4, .int v5, .ref h6, .int v6, .ref h7, .ref h8, .ref h9, .int v7, .int v8, .int v9, .int v10, .int v11])), (h1, .inl (cy 0, 64, .inl (g)))] sz) := by
  refine z_of (Qc := fun A => zQi D ((q_X9_bumperRunBySeries_3 cy h0 h1 h2 h3 h4 h5 h6 h7 h8 h9 v2 v3 v4 v5 v6 v7 v8 v9 v10 v11 g) n_X9_bumperRunBySeries_3) A (0)) (by decide +kernel) (Nat.le_of_ble_eq_true rfl) rfl ?_
  intro pG eN sT mI below meth cO A ls C hRT hnm hA hP hD hS hE0 hl
  have hX := C.x
  have hB := C.b
  refine lv_aload_n hX hB dX9_bumperRunBySeries_0 rfl (lv_at hl 0 rfl) ?_
  refine lv_iload_n hX hB dX9_bumperRunBySeries_1 rfl (lv_at hl 1 rfl) ?_
  refine lv_iload_n hX hB dX9_bumperRunBySeries_2 rfl (lv_at hl 2 rfl) ?_
  refine z_callVi (isC := [0, 1]) (isR := []) (isO := [0, 1]) (n_X9_bumpers_3) (q_X9_bumpers_3 cy h0 h1 h2 h3 h4 h5 h6 h7 h8 h9 v2 v3 v4 v5 v6 v7 v8 v9 v10 v11 g) (fun o_1 => [(h0, .inr (11, [.ref h1, .ref h2, .ref h3, .ref h4, .ref h5, .int o_1, .int v2, .int v3, .int v4, .int v5, .ref h6, .int v6, .ref h7, .ref h8, .ref h9, .int v7, .int v8, .int v9, .int v10, .int v11])), (h1, .inl (cy 0, 64, .inl (g)))]) (fun o_1 => 0) (c_X9_bumpers_3 l hE D cy h0 h1 h2 h3 h4 h5 h6 h7 h8 h9 v1 v2 v3 v4 v5 v6 v7 v8 v9 v10 v11 g x i y j hx (by omega) hy (by omega) hr) hE C zs_X9_184 ⟨Nat.le_of_ble_eq_true rfl, Nat.le_of_ble_eq_true rfl⟩ hP hD hS hA hE0 ⟨rfl, rfl, rfl, by decide, rfl, rfl, rfl⟩ 0 rfl rfl rfl rfl hl.1 (Nat.le_of_ble_eq_true rfl) rfl dX9_bumperRunBySeries_3 ⟨Nat.le_of_ble_eq_true rfl, Nat.le_of_ble_eq_true rfl⟩ (fun o_1 H locs eo_1 hP hD hS => ?_)
  exact z_iret' o_1 (w' := q_X9_bumperRunBySeries_3 cy h0 h1 h2 h3 h4 h5 h6 h7 h8 h9 v2 v3 v4 v5 v6 v7 v8 v9 v10 v11 g) (r0 := (fun (o : Int32) => 0)) (by simp only [n_X9_bumperRunBySeries_3, ← eo_1]) C hRT hP hD hS (Nat.le_of_ble_eq_true rfl) (Nat.le_of_ble_eq_true rfl) rfl rfl dX9_bumperRunBySeries_6

def n_X9_bumperRunBySeries_2 (y : Int32) : Int32 :=
  let o_1 := n_X9_bumpers_2 y
  o_1
def q_X9_bumperRunBySeries_2 (cy : Nat → ClassId) (h0 : Nat) (h1 : Nat) (h2 : Nat) (h3 : Nat) (h4 : Nat) (h5 : Nat) (h6 : Nat) (h7 : Nat) (h8 : Nat) (h9 : Nat) (v2 : Int32) (v3 : Int32) (v4 : Int32) (v5 : Int32) (v6 : Int32) (v7 : Int32) (v8 : Int32) (v9 : Int32) (v10 : Int32) (v11 : Int32) (g : Nat → Int32) (o : Int32) : va_W := [(h0, .inr (11, [.ref h1, .ref h2, .ref h3, .ref h4, .ref h5, .int o, .int v2, .int v3, .int v4, .int v5, .ref h6, .int v6, .ref h7, .ref h8, .ref h9, .int v7, .int v8, .int v9, .int v10, .int v11])), (h1, .inl (cy 0, 64, .inl (g)))]
set_option maxHeartbeats 4000000 in
set_option maxRecDepth 100000 in
theorem c_X9_bumperRunBySeries_2 (l : Launch) {E : zEn} (hE : zEok E) (D : zG) (cy : Nat → ClassId) (h0 h1 h2 h3 h4 h5 h6 h7 h8 h9 : Nat) (v1 : Int32) (v2 : Int32) (v3 : Int32) (v4 : Int32) (v5 : Int32) (v6 : Int32) (v7 : Int32) (v8 : Int32) (v9 : Int32) (v10 : Int32) (v11 : Int32) (g : Nat → Int32) (x : Int32) (i : Nat) (y : Int32) (hx : zi x i) (hxb : i ≤ 2) (hin : n_X9_in y 0 50 = 0) (sz : Nat) : Met l yX9_bumperRunBySeries (zws yX9_bumperRunBySeries cX9_bumperRunBySeries 3 (some .int)) { frames := 2, cells := 0, slots := 0, locals := 47 } (zPre E D cy [.ref h0, .int x, .int y] [(h0, .inr (11, [.ref h1, .ref h2, .ref h3, .ref h4, .ref h5, .int v1, .int v2, .int v3, .int v4, .int v5, .ref h6, .int v6, .ref h7, .ref h8, .ref h9, .int v7, .int v8, .int v9, .int v10, .int v11])), (h1, .inl (cy 0, 64, .inl (g)))] sz) (zQi D ((q_X9_bumperRunBySeries_2 cy h0 h1 h2 h3 h4 h5 h6 h7 h8 h9 v2 v3 v4 v5 v6 v7 v8 v9 v10 v11 g) (n_X9_bumperRunBySeries_2 y)) (va_A [(h0, .inr (11, [.ref h1, .ref h2, .ref h3, .ref h4, .ref h5, .int v1, .int v2, .int v3, .int v4, .int v5, .ref h6, .int v6, .ref h7, .ref h8, .ref h9, .int v7, .int v8, .int v9, .int v10, .int v11])), (h1, .inl (cy 0, 64, .inl (g)))] sz) (0)) 0 0 (va_A [(h0, .inr (11, [.ref h1, .ref h2, .ref h3, .ref h4, .ref h5, .int v1, .int v2, .int v3, .int v4, .int v5, .ref h6, .int v6, .ref h7, .ref h8, .ref h9, .int v7, .int v8, .int v9, .int v10, .int v11])), (h1, .inl (cy 0, 64, .inl (g)))] sz) := by
  refine z_of (Qc := fun A => zQi D ((q_X9_bumperRunBySeries_2 cy h0 h1 h2 h3 h4 h5 h6 h7 h8 h9 v2 v3 v4 v5 v6 v7 v8 v9 v10 v11 g) (n_X9_bumperRunBySeries_2 y)) A (0)) (by decide +kernel) (Nat.le_of_ble_eq_true rfl) rfl ?_
  intro pG eN sT mI below meth cO A ls C hRT hnm hA hP hD hS hE0 hl
  have hX := C.x
  have hB := C.b
  refine lv_aload_n hX hB dX9_bumperRunBySeries_0 rfl (lv_at hl 0 rfl) ?_
  refine lv_iload_n hX hB dX9_bumperRunBySeries_1 rfl (lv_at hl 1 rfl) ?_
  refine lv_iload_n hX hB dX9_bumperRunBySeries_2 rfl (lv_at hl 2 rfl) ?_
  refine z_callVi (isC := [0, 1]) (isR := []) (isO := [0, 1]) (n_X9_bumpers_2 y) (q_X9_bumpers_2 cy h0 h1 h2 h3 h4 h5 h6 h7 h8 h9 v2 v3 v4 v5 v6 v7 v8 v9 v10 v11 g) (fun o_1 => [(h0, .inr (11, [.ref h1, .ref h2, .ref h3, .ref h4, .ref h5, .int o_1, .int v2, .int v3, .int v4, .int v5, .ref h6, .int v6, .ref h7, .ref h8, .ref h9, .int v7, .int v8, .int v9, .int v10, .int v11])), (h1, .inl (cy 0, 64, .inl (g)))]) (fun o_1 => 0) (c_X9_bumpers_2 l hE D cy h0 h1 h2 h3 h4 h5 h6 h7 h8 h9 v1 v2 v3 v4 v5 v6 v7 v8 v9 v10 v11 g x i y hx (by omega) hin) hE C zs_X9_184 ⟨Nat.le_of_ble_eq_true rfl, Nat.le_of_ble_eq_true rfl⟩ hP hD hS hA hE0 ⟨rfl, rfl, rfl, by decide, rfl, rfl, rfl⟩ 0 rfl rfl rfl rfl hl.1 (Nat.le_of_ble_eq_true rfl) rfl dX9_bumperRunBySeries_3 ⟨Nat.le_of_ble_eq_true rfl, Nat.le_of_ble_eq_true rfl⟩ (fun o_1 H locs eo_1 hP hD hS => ?_)
  exact z_iret' o_1 (w' := q_X9_bumperRunBySeries_2 cy h0 h1 h2 h3 h4 h5 h6 h7 h8 h9 v2 v3 v4 v5 v6 v7 v8 v9 v10 v11 g) (r0 := (fun (o : Int32) => 0)) (by simp only [n_X9_bumperRunBySeries_2, ← eo_1]) C hRT hP hD hS (Nat.le_of_ble_eq_true rfl) (Nat.le_of_ble_eq_true rfl) rfl rfl dX9_bumperRunBySeries_6

def n_X9_bumperRunBySeries_1 (x : Int32) : Int32 :=
  let o_1 := n_X9_bumpers_1 x
  o_1
def q_X9_bumperRunBySeries_1 (cy : Nat → ClassId) (h0 : Nat) (h1 : Nat) (h2 : Nat) (h3 : Nat) (h4 : Nat) (h5 : Nat) (h6 : Nat) (h7 : Nat) (h8 : Nat) (h9 : Nat) (v2 : Int32) (v3 : Int32) (v4 : Int32) (v5 : Int32) (v6 : Int32) (v7 : Int32) (v8 : Int32) (v9 : Int32) (v10 : Int32) (v11 : Int32) (g : Nat → Int32) (o : Int32) : va_W := [(h0, .inr (11, [.ref h1, .ref h2, .ref h3, .ref h4, .ref h5, .int o, .int v2, .int v3, .int v4, .int v5, .ref h6, .int v6, .ref h7, .ref h8, .ref h9, .int v7, .int v8, .int v9, .int v10, .int v11])), (h1, .inl (cy 0, 64, .inl (g)))]
set_option maxHeartbeats 4000000 in
set_option maxRecDepth 100000 in
theorem c_X9_bumperRunBySeries_1 (l : Launch) {E : zEn} (hE : zEok E) (D : zG) (cy : Nat → ClassId) (h0 h1 h2 h3 h4 h5 h6 h7 h8 h9 : Nat) (v1 : Int32) (v2 : Int32) (v3 : Int32) (v4 : Int32) (v5 : Int32) (v6 : Int32) (v7 : Int32) (v8 : Int32) (v9 : Int32) (v10 : Int32) (v11 : Int32) (g : Nat → Int32) (x : Int32) (y : Int32) (hin : n_X9_in x 0 2 = 0) (sz : Nat) : Met l yX9_bumperRunBySeries (zws yX9_bumperRunBySeries cX9_bumperRunBySeries 3 (some .int)) { frames := 2, cells := 0, slots := 0, locals := 47 } (zPre E D cy [.ref h0, .int x, .int y] [(h0, .inr (11, [.ref h1, .ref h2, .ref h3, .ref h4, .ref h5, .int v1, .int v2, .int v3, .int v4, .int v5, .ref h6, .int v6, .ref h7, .ref h8, .ref h9, .int v7, .int v8, .int v9, .int v10, .int v11])), (h1, .inl (cy 0, 64, .inl (g)))] sz) (zQi D ((q_X9_bumperRunBySeries_1 cy h0 h1 h2 h3 h4 h5 h6 h7 h8 h9 v2 v3 v4 v5 v6 v7 v8 v9 v10 v11 g) (n_X9_bumperRunBySeries_1 x)) (va_A [(h0, .inr (11, [.ref h1, .ref h2, .ref h3, .ref h4, .ref h5, .int v1, .int v2, .int v3, .int v4, .int v5, .ref h6, .int v6, .ref h7, .ref h8, .ref h9, .int v7, .int v8, .int v9, .int v10, .int v11])), (h1, .inl (cy 0, 64, .inl (g)))] sz) (0)) 0 0 (va_A [(h0, .inr (11, [.ref h1, .ref h2, .ref h3, .ref h4, .ref h5, .int v1, .int v2, .int v3, .int v4, .int v5, .ref h6, .int v6, .ref h7, .ref h8, .ref h9, .int v7, .int v8, .int v9, .int v10, .int v11])), (h1, .inl (cy 0, 64, .inl (g)))] sz) := by
  refine z_of (Qc := fun A => zQi D ((q_X9_bumperRunBySeries_1 cy h0 h1 h2 h3 h4 h5 h6 h7 h8 h9 v2 v3 v4 v5 v6 v7 v8 v9 v10 v11 g) (n_X9_bumperRunBySeries_1 x)) A (0)) (by decide +kernel) (Nat.le_of_ble_eq_true rfl) rfl ?_
  intro pG eN sT mI below meth cO A ls C hRT hnm hA hP hD hS hE0 hl
  have hX := C.x
  have hB := C.b
  refine lv_aload_n hX hB dX9_bumperRunBySeries_0 rfl (lv_at hl 0 rfl) ?_
  refine lv_iload_n hX hB dX9_bumperRunBySeries_1 rfl (lv_at hl 1 rfl) ?_
  refine lv_iload_n hX hB dX9_bumperRunBySeries_2 rfl (lv_at hl 2 rfl) ?_
  refine z_callVi (isC := [0, 1]) (isR := []) (isO := [0, 1]) (n_X9_bumpers_1 x) (q_X9_bumpers_1 cy h0 h1 h2 h3 h4 h5 h6 h7 h8 h9 v2 v3 v4 v5 v6 v7 v8 v9 v10 v11 g) (fun o_1 => [(h0, .inr (11, [.ref h1, .ref h2, .ref h3, .ref h4, .ref h5, .int o_1, .int v2, .int v3, .int v4, .int v5, .ref h6, .int v6, .ref h7, .ref h8, .ref h9, .int v7, .int v8, .int v9, .int v10, .int v11])), (h1, .inl (cy 0, 64, .inl (g)))]) (fun o_1 => 0) (c_X9_bumpers_1 l hE D cy h0 h1 h2 h3 h4 h5 h6 h7 h8 h9 v1 v2 v3 v4 v5 v6 v7 v8 v9 v10 v11 g x y hin) hE C zs_X9_184 ⟨Nat.le_of_ble_eq_true rfl, Nat.le_of_ble_eq_true rfl⟩ hP hD hS hA hE0 ⟨rfl, rfl, rfl, by decide, rfl, rfl, rfl⟩ 0 rfl rfl rfl rfl hl.1 (Nat.le_of_ble_eq_true rfl) rfl dX9_bumperRunBySeries_3 ⟨Nat.le_of_ble_eq_true rfl, Nat.le_of_ble_eq_true rfl⟩ (fun o_1 H locs eo_1 hP hD hS => ?_)
  exact z_iret' o_1 (w' := q_X9_bumperRunBySeries_1 cy h0 h1 h2 h3 h4 h5 h6 h7 h8 h9 v2 v3 v4 v5 v6 v7 v8 v9 v10 v11 g) (r0 := (fun (o : Int32) => 0)) (by simp only [n_X9_bumperRunBySeries_1, ← eo_1]) C hRT hP hD hS (Nat.le_of_ble_eq_true rfl) (Nat.le_of_ble_eq_true rfl) rfl rfl dX9_bumperRunBySeries_6

def n_X9_record0_ok (g : Nat → Int32) (i : Nat) : Int32 × Int32 :=
  (g ((46 + (3 * i)) + 0), 0)
def q_X9_record0_ok (cy : Nat → ClassId) (h0 : Nat) (h1 : Nat) (h2 : Nat) (h3 : Nat) (h4 : Nat) (h5 : Nat) (h6 : Nat) (h7 : Nat) (h8 : Nat) (h9 : Nat) (v2 : Int32) (v3 : Int32) (v4 : Int32) (v5 : Int32) (v6 : Int32) (v7 : Int32) (v8 : Int32) (v9 : Int32) (v10 : Int32) (v11 : Int32) (g : Nat → Int32) (o : Int32 × Int32) : va_W := [(h0, .inr (11, [.ref h1, .ref h2, .ref h3, .ref h4, .ref h5, .int o.2, .int v2, .int v3, .int v4, .int v5, .ref h6, .int v6, .ref h7, .ref h8, .ref h9, .int v7, .int v8, .int v9, .int v10, .int v11])), (h1, .inl (cy 0, 64, .inl (g)))]
set_option maxHeartbeats 4000000 in
set_option maxRecDepth 100000 in
theorem c_X9_record0_ok (l : Launch) {E : zEn} (hE : zEok E) (D : zG) (cy : Nat → ClassId) (h0 h1 h2 h3 h4 h5 h6 h7 h8 h9 : Nat) (v1 : Int32) (v2 : Int32) (v3 : Int32) (v4 : Int32) (v5 : Int32) (v6 : Int32) (v7 : Int32) (v8 : Int32) (v9 : Int32) (v10 : Int32) (v11 : Int32) (g : Nat → Int32) (x : Int32) (i : Nat) (hx : zi x i) (hi : i < zn (g 13)) (hq : zle (g 13) 5) (sz : Nat) : Met l yX9_record (zws yX9_record cX9_record 3 (some .int)) { frames := 1, cells := 0, slots := 0, locals := 22 } (zPre E D cy [.ref h0, .int x, .int 0] [(h0, .inr (11, [.ref h1, .ref h2, .ref h3, .ref h4, .ref h5, .int v1, .int v2, .int v3, .int v4, .int v5, .ref h6, .int v6, .ref h7, .ref h8, .ref h9, .int v7, .int v8, .int v9, .int v10, .int v11])), (h1, .inl (cy 0, 64, .inl (g)))] sz) (zQi D ((q_X9_record0_ok cy h0 h1 h2 h3 h4 h5 h6 h7 h8 h9 v2 v3 v4 v5 v6 v7 v8 v9 v10 v11 g) (n_X9_record0_ok g i)) (va_A [(h0, .inr (11, [.ref h1, .ref h2, .ref h3, .ref h4, .ref h5, .int v1, .int v2, .int v3, .int v4, .int v5, .ref h6, .int v6, .ref h7, .ref h8, .ref h9, .int v7, .int v8, .int v9, .int v10, .int v11])), (h1, .inl (cy 0, 64, .inl (g)))] sz) ((n_X9_record0_ok g i).1)) 0 0 (va_A [(h0, .inr (11, [.ref h1, .ref h2, .ref h3, .ref h4, .ref h5, .int v1, .int v2, .int v3, .int v4, .int v5, .ref h6, .int v6, .ref h7, .ref h8, .ref h9, .int v7, .int v8, .int v9, .int v10, .int v11])), (h1, .inl (cy 0, 64, .inl (g)))] sz) := by
  refine z_of (Qc := fun A => zQi D ((q_X9_record0_ok cy h0 h1 h2 h3 h4 h5 h6 h7 h8 h9 v2 v3 v4 v5 v6 v7 v8 v9 v10 v11 g) (n_X9_record0_ok g i)) A ((n_X9_record0_ok g i).1)) (by decide +kernel) (Nat.le_of_ble_eq_true rfl) rfl ?_
  intro pG eN sT mI below meth cO A ls C hRT hnm hA hP hD hS hE0 hl
  have hX := C.x
  have hB := C.b
  have hq_ := hq.2
  refine lv_aload_n hX hB dX9_record_0 rfl (lv_at hl 0 rfl) ?_
  refine lv_iload_n hX hB dX9_record_1 rfl (lv_at hl 1 rfl) ?_
  refine lv_iconst (v := 0) hX hB dX9_record_2 (by decide) ?_
  refine lv_aload_n hX hB dX9_record_3 rfl (lv_at hl 0 rfl) ?_
  refine fg_X9_7 C hP 0 rfl rfl dX9_record_4 ?_
  refine lv_bipush (v := 13) hX hB dX9_record_7 (by decide) ?_
  refine z_iald C hP 1 rfl (k := 13) (zlit 13) (by decide) (by decide) (v := g 13) rfl dX9_record_9 ?_
  refine lv_iconst (v := 1) hX hB dX9_record_10 (by decide) ?_
  refine z_isub (v := nI ((zn (g 13)) - 1)) C dX9_record_11 (zi_sub hq.1 (zlit 1) (by omega)) ?_
  refine z_callSi (isC := []) (isR := [0, 1]) (isO := [0, 1]) (()) (q_X9_in_t ) (fun o_1 => [(h0, .inr (11, [.ref h1, .ref h2, .ref h3, .ref h4, .ref h5, .int v1, .int v2, .int v3, .int v4, .int v5, .ref h6, .int v6, .ref h7, .ref h8, .ref h9, .int v7, .int v8, .int v9, .int v10, .int v11])), (h1, .inl (cy 0, 64, .inl (g)))]) (fun o_1 => 1) (c_X9_in_t l hE D cy  x i 0 0 (nI ((zn (g 13)) - 1)) ((zn (g 13)) - 1) hx (zlit 0) (zi_i ((zn (g 13)) - 1)) (by omega) (by omega) (by omega)) hE C zs_X9_127 ⟨Nat.le_of_ble_eq_true rfl, Nat.le_of_ble_eq_true rfl⟩ hP hD hS hA hE0 ⟨rfl, rfl, rfl, by decide, rfl, rfl, rfl⟩ rfl hl.1 (Nat.le_of_ble_eq_true rfl) rfl dX9_record_12 ⟨Nat.le_of_ble_eq_true rfl, Nat.le_of_ble_eq_true rfl⟩ (fun o_1 H locs eo_1 hP hD hS => ?_)
  refine lv_if_eq (tgt := 22) hX hB dX9_record_15 (by decide) (fun c => absurd c (by decide)) (fun _ => ?_)
  refine lv_iconst (v := 0) hX hB dX9_record_18 (by decide) ?_
  refine lv_goto (tgt := 23) hX hB dX9_record_19 (by decide) ?_
  refine fp_X9_25 C hP hD hS 0 rfl rfl rfl (Nat.le_of_ble_eq_true rfl) (w' := [(h0, .inr (11, [.ref h1, .ref h2, .ref h3, .ref h4, .ref h5, .int 0, .int v2, .int v3, .int v4, .int v5, .ref h6, .int v6, .ref h7, .ref h8, .ref h9, .int v7, .int v8, .int v9, .int v10, .int v11])), (h1, .inl (cy 0, 64, .inl (g)))]) rfl dX9_record_23 (fun H locs hP hD hS => ?_)
  refine lv_aload_n hX hB dX9_record_26 rfl (lv_at hl 0 rfl) ?_
  refine fg_X9_25 C hP 0 rfl rfl dX9_record_27 ?_
  refine lv_if_le (tgt := 37) hX hB dX9_record_30 (by decide) (fun _ => ?_) (fun c => absurd (by decide) c)
  refine lv_aload_n hX hB dX9_record_37 rfl (lv_at hl 0 rfl) ?_
  refine fg_X9_7 C hP 0 rfl rfl dX9_record_38 ?_
  refine lv_bipush (v := 46) hX hB dX9_record_41 (by decide) ?_
  refine lv_iconst (v := 3) hX hB dX9_record_43 (by decide) ?_
  refine lv_iload_n hX hB dX9_record_44 rfl (lv_at hl 1 rfl) ?_
  refine z_imul (v := nI (3 * i)) C dX9_record_45 (zi_mul (zlit 3) hx) ?_
  refine z_iadd (v := nI (46 + (3 * i))) C dX9_record_46 (zi_add (zlit 46) (zi_i (3 * i))) ?_
  refine lv_iload_n hX hB dX9_record_47 rfl (lv_at hl 2 rfl) ?_
  refine z_iadd (v := nI ((46 + (3 * i)) + 0)) C dX9_record_48 (zi_add (zi_i (46 + (3 * i))) (zlit 0)) ?_
  refine z_iald C hP 1 rfl (k := (46 + (3 * i)) + 0) (zi_i ((46 + (3 * i)) + 0)) (by omega) (by decide) (v := g ((46 + (3 * i)) + 0)) rfl dX9_record_49 ?_
  exact z_iret' (g ((46 + (3 * i)) + 0), 0) (w' := q_X9_record0_ok cy h0 h1 h2 h3 h4 h5 h6 h7 h8 h9 v2 v3 v4 v5 v6 v7 v8 v9 v10 v11 g) (r0 := (fun (o : Int32 × Int32) => o.1)) (by simp only [n_X9_record0_ok]) C hRT hP hD hS (Nat.le_of_ble_eq_true rfl) (Nat.le_of_ble_eq_true rfl) rfl rfl dX9_record_50

def n_X9_record0_1 (g : Nat → Int32) (x : Int32) : Int32 :=
  let o_1 := n_X9_in x 0 ((g 13) - 1)
  1
def q_X9_record0_1 (cy : Nat → ClassId) (h0 : Nat) (h1 : Nat) (h2 : Nat) (h3 : Nat) (h4 : Nat) (h5 : Nat) (h6 : Nat) (h7 : Nat) (h8 : Nat) (h9 : Nat) (v2 : Int32) (v3 : Int32) (v4 : Int32) (v5 : Int32) (v6 : Int32) (v7 : Int32) (v8 : Int32) (v9 : Int32) (v10 : Int32) (v11 : Int32) (g : Nat → Int32) (o : Int32) : va_W := [(h0, .inr (11, [.ref h1, .ref h2, .ref h3, .ref h4, .ref h5, .int o, .int v2, .int v3, .int v4, .int v5, .ref h6, .int v6, .ref h7, .ref h8, .ref h9, .int v7, .int v8, .int v9, .int v10, .int v11])), (h1, .inl (cy 0, 64, .inl (g)))]
set_option maxHeartbeats 4000000 in
set_option maxRecDepth 100000 in
theorem c_X9_record0_1 (l : Launch) {E : zEn} (hE : zEok E) (D : zG) (cy : Nat → ClassId) (h0 h1 h2 h3 h4 h5 h6 h7 h8 h9 : Nat) (v1 : Int32) (v2 : Int32) (v3 : Int32) (v4 : Int32) (v5 : Int32) (v6 : Int32) (v7 : Int32) (v8 : Int32) (v9 : Int32) (v10 : Int32) (v11 : Int32) (g : Nat → Int32) (x : Int32) (hin : n_X9_in x 0 ((g 13) - 1) = 0) (sz : Nat) : Met l yX9_record (zws yX9_record cX9_record 3 (some .int)) { frames := 1, cells := 0, slots := 0, locals := 22 } (zPre E D cy [.ref h0, .int x, .int 0] [(h0, .inr (11, [.ref h1, .ref h2, .ref h3, .ref h4, .ref h5, .int v1, .int v2, .int v3, .int v4, .int v5, .ref h6, .int v6, .ref h7, .ref h8, .ref h9, .int v7, .int v8, .int v9, .int v10, .int v11])), (h1, .inl (cy 0, 64, .inl (g)))] sz) (zQi D ((q_X9_record0_1 cy h0 h1 h2 h3 h4 h5 h6 h7 h8 h9 v2 v3 v4 v5 v6 v7 v8 v9 v10 v11 g) (n_X9_record0_1 g x)) (va_A [(h0, .inr (11, [.ref h1, .ref h2, .ref h3, .ref h4, .ref h5, .int v1, .int v2, .int v3, .int v4, .int v5, .ref h6, .int v6, .ref h7, .ref h8, .ref h9, .int v7, .int v8, .int v9, .int v10, .int v11])), (h1, .inl (cy 0, 64, .inl (g)))] sz) (0)) 0 0 (va_A [(h0, .inr (11, [.ref h1, .ref h2, .ref h3, .ref h4, .ref h5, .int v1, .int v2, .int v3, .int v4, .int v5, .ref h6, .int v6, .ref h7, .ref h8, .ref h9, .int v7, .int v8, .int v9, .int v10, .int v11])), (h1, .inl (cy 0, 64, .inl (g)))] sz) := by
  refine z_of (Qc := fun A => zQi D ((q_X9_record0_1 cy h0 h1 h2 h3 h4 h5 h6 h7 h8 h9 v2 v3 v4 v5 v6 v7 v8 v9 v10 v11 g) (n_X9_record0_1 g x)) A (0)) (by decide +kernel) (Nat.le_of_ble_eq_true rfl) rfl ?_
  intro pG eN sT mI below meth cO A ls C hRT hnm hA hP hD hS hE0 hl
  have hX := C.x
  have hB := C.b
  refine lv_aload_n hX hB dX9_record_0 rfl (lv_at hl 0 rfl) ?_
  refine lv_iload_n hX hB dX9_record_1 rfl (lv_at hl 1 rfl) ?_
  refine lv_iconst (v := 0) hX hB dX9_record_2 (by decide) ?_
  refine lv_aload_n hX hB dX9_record_3 rfl (lv_at hl 0 rfl) ?_
  refine fg_X9_7 C hP 0 rfl rfl dX9_record_4 ?_
  refine lv_bipush (v := 13) hX hB dX9_record_7 (by decide) ?_
  refine z_iald C hP 1 rfl (k := 13) (zlit 13) (by decide) (by decide) (v := g 13) rfl dX9_record_9 ?_
  refine lv_iconst (v := 1) hX hB dX9_record_10 (by decide) ?_
  refine z_isub (v := (g 13) - 1) C dX9_record_11 rfl ?_
  refine z_callSi (isC := []) (isR := [0, 1]) (isO := [0, 1]) (n_X9_in x 0 ((g 13) - 1)) (q_X9_in ) (fun o_1 => [(h0, .inr (11, [.ref h1, .ref h2, .ref h3, .ref h4, .ref h5, .int v1, .int v2, .int v3, .int v4, .int v5, .ref h6, .int v6, .ref h7, .ref h8, .ref h9, .int v7, .int v8, .int v9, .int v10, .int v11])), (h1, .inl (cy 0, 64, .inl (g)))]) (fun o_1 => o_1) (c_X9_in l hE D cy  x 0 ((g 13) - 1) ) hE C zs_X9_127 ⟨Nat.le_of_ble_eq_true rfl, Nat.le_of_ble_eq_true rfl⟩ hP hD hS hA hE0 ⟨rfl, rfl, rfl, by decide, rfl, rfl, rfl⟩ rfl hl.1 (Nat.le_of_ble_eq_true rfl) rfl dX9_record_12 ⟨Nat.le_of_ble_eq_true rfl, Nat.le_of_ble_eq_true rfl⟩ (fun o_1 H locs eo_1 hP hD hS => ?_)
  refine lv_if_eq (tgt := 22) hX hB dX9_record_15 (by decide) (fun _ => ?_) (fun c => absurd (by rw [eo_1]; exact hin) c)
  refine lv_iconst (v := 1) hX hB dX9_record_22 (by decide) ?_
  refine fp_X9_25 C hP hD hS 0 rfl rfl rfl (Nat.le_of_ble_eq_true rfl) (w' := [(h0, .inr (11, [.ref h1, .ref h2, .ref h3, .ref h4, .ref h5, .int 1, .int v2, .int v3, .int v4, .int v5, .ref h6, .int v6, .ref h7, .ref h8, .ref h9, .int v7, .int v8, .int v9, .int v10, .int v11])), (h1, .inl (cy 0, 64, .inl (g)))]) rfl dX9_record_23 (fun H locs hP hD hS => ?_)
  refine lv_aload_n hX hB dX9_record_26 rfl (lv_at hl 0 rfl) ?_
  refine fg_X9_25 C hP 0 rfl rfl dX9_record_27 ?_
  refine lv_if_le (tgt := 37) hX hB dX9_record_30 (by decide) (fun c => absurd c (by decide)) (fun _ => ?_)
  refine lv_iconst (v := 0) hX hB dX9_record_33 (by decide) ?_
  refine lv_goto (tgt := 50) hX hB dX9_record_34 (by decide) ?_
  exact z_iret' 1 (w' := q_X9_record0_1 cy h0 h1 h2 h3 h4 h5 h6 h7 h8 h9 v2 v3 v4 v5 v6 v7 v8 v9 v10 v11 g) (r0 := (fun (o : Int32) => 0)) (by simp only [n_X9_record0_1, ← eo_1]) C hRT hP hD hS (Nat.le_of_ble_eq_true rfl) (Nat.le_of_ble_eq_true rfl) rfl rfl dX9_record_50

def n_X9_recordScore_ok (g : Nat → Int32) (i : Nat) : Int32 × Int32 :=
  let o_1 := n_X9_record0_ok g i
  (o_1.1, o_1.2)
def q_X9_recordScore_ok (cy : Nat → ClassId) (h0 : Nat) (h1 : Nat) (h2 : Nat) (h3 : Nat) (h4 : Nat) (h5 : Nat) (h6 : Nat) (h7 : Nat) (h8 : Nat) (h9 : Nat) (v2 : Int32) (v3 : Int32) (v4 : Int32) (v5 : Int32) (v6 : Int32) (v7 : Int32) (v8 : Int32) (v9 : Int32) (v10 : Int32) (v11 : Int32) (g : Nat → Int32) (o : Int32 × Int32) : va_W := [(h0, .inr (11, [.ref h1, .ref h2, .ref h3, .ref h4, .ref h5, .int o.2, .int v2, .int v3, .int v4, .int v5, .ref h6, .int v6, .ref h7, .ref h8, .ref h9, .int v7, .int v8, .int v9, .int v10, .int v11])), (h1, .inl (cy 0, 64, .inl (g)))]
set_option maxHeartbeats 4000000 in
set_option maxRecDepth 100000 in
theorem c_X9_recordScore_ok (l : Launch) {E : zEn} (hE : zEok E) (D : zG) (cy : Nat → ClassId) (h0 h1 h2 h3 h4 h5 h6 h7 h8 h9 : Nat) (v1 : Int32) (v2 : Int32) (v3 : Int32) (v4 : Int32) (v5 : Int32) (v6 : Int32) (v7 : Int32) (v8 : Int32) (v9 : Int32) (v10 : Int32) (v11 : Int32) (g : Nat → Int32) (x : Int32) (i : Nat) (hx : zi x i) (hi : i < zn (g 13)) (hq : zle (g 13) 5) (sz : Nat) : Met l yX9_recordScore (zws yX9_recordScore cX9_recordScore 2 (some .int)) { frames := 2, cells := 0, slots := 0, locals := 44 } (zPre E D cy [.ref h0, .int x] [(h0, .inr (11, [.ref h1, .ref h2, .ref h3, .ref h4, .ref h5, .int v1, .int v2, .int v3, .int v4, .int v5, .ref h6, .int v6, .ref h7, .ref h8, .ref h9, .int v7, .int v8, .int v9, .int v10, .int v11])), (h1, .inl (cy 0, 64, .inl (g)))] sz) (zQi D ((q_X9_recordScore_ok cy h0 h1 h2 h3 h4 h5 h6 h7 h8 h9 v2 v3 v4 v5 v6 v7 v8 v9 v10 v11 g) (n_X9_recordScore_ok g i)) (va_A [(h0, .inr (11, [.ref h1, .ref h2, .ref h3, .ref h4, .ref h5, .int v1, .int v2, .int v3, .int v4, .int v5, .ref h6, .int v6, .ref h7, .ref h8, .ref h9, .int v7, .int v8, .int v9, .int v10, .int v11])), (h1, .inl (cy 0, 64, .inl (g)))] sz) ((n_X9_recordScore_ok g i).1)) 0 0 (va_A [(h0, .inr (11, [.ref h1, .ref h2, .ref h3, .ref h4, .ref h5, .int v1, .int v2, .int v3, .int v4, .int v5, .ref h6, .int v6, .ref h7, .ref h8, .ref h9, .int v7, .int v8, .int v9, .int v10, .int v11])), (h1, .inl (cy 0, 64, .inl (g)))] sz) := by
  refine z_of (Qc := fun A => zQi D ((q_X9_recordScore_ok cy h0 h1 h2 h3 h4 h5 h6 h7 h8 h9 v2 v3 v4 v5 v6 v7 v8 v9 v10 v11 g) (n_X9_recordScore_ok g i)) A ((n_X9_recordScore_ok g i).1)) (by decide +kernel) (Nat.le_of_ble_eq_true rfl) rfl ?_
  intro pG eN sT mI below meth cO A ls C hRT hnm hA hP hD hS hE0 hl
  have hX := C.x
  have hB := C.b
  have hq_ := hq.2
  refine lv_aload_n hX hB dX9_recordScore_0 rfl (lv_at hl 0 rfl) ?_
  refine lv_iload_n hX hB dX9_recordScore_1 rfl (lv_at hl 1 rfl) ?_
  refine lv_iconst (v := 0) hX hB dX9_recordScore_2 (by decide) ?_
  refine z_callVi (isC := [0, 1]) (isR := []) (isO := [0, 1]) (n_X9_record0_ok g i) (q_X9_record0_ok cy h0 h1 h2 h3 h4 h5 h6 h7 h8 h9 v2 v3 v4 v5 v6 v7 v8 v9 v10 v11 g) (fun o_1 => [(h0, .inr (11, [.ref h1, .ref h2, .ref h3, .ref h4, .ref h5, .int o_1.2, .int v2, .int v3, .int v4, .int v5, .ref h6, .int v6, .ref h7, .ref h8, .ref h9, .int v7, .int v8, .int v9, .int v10, .int v11])), (h1, .inl (cy 0, 64, .inl (g)))]) (fun o_1 => o_1.1) (c_X9_record0_ok l hE D cy h0 h1 h2 h3 h4 h5 h6 h7 h8 h9 v1 v2 v3 v4 v5 v6 v7 v8 v9 v10 v11 g x i hx (by omega) (zle_of (zi_tr rfl hq.1) (by omega) (by decide))) hE C zs_X9_187 ⟨Nat.le_of_ble_eq_true rfl, Nat.le_of_ble_eq_true rfl⟩ hP hD hS hA hE0 ⟨rfl, rfl, rfl, by decide, rfl, rfl, rfl⟩ 0 rfl rfl rfl rfl hl.1 (Nat.le_of_ble_eq_true rfl) rfl dX9_recordScore_3 ⟨Nat.le_of_ble_eq_true rfl, Nat.le_of_ble_eq_true rfl⟩ (fun o_1 H locs eo_1 hP hD hS => ?_)
  exact z_iret' (o_1.1, o_1.2) (w' := q_X9_recordScore_ok cy h0 h1 h2 h3 h4 h5 h6 h7 h8 h9 v2 v3 v4 v5 v6 v7 v8 v9 v10 v11 g) (r0 := (fun (o : Int32 × Int32) => o.1)) (by simp only [n_X9_recordScore_ok, ← eo_1]) C hRT hP hD hS (Nat.le_of_ble_eq_true rfl) (Nat.le_of_ble_eq_true rfl) rfl rfl dX9_recordScore_6

def n_X9_recordScore_1 (g : Nat → Int32) (x : Int32) : Int32 :=
  let o_1 := n_X9_record0_1 g x
  o_1
def q_X9_recordScore_1 (cy : Nat → ClassId) (h0 : Nat) (h1 : Nat) (h2 : Nat) (h3 : Nat) (h4 : Nat) (h5 : Nat) (h6 : Nat) (h7 : Nat) (h8 : Nat) (h9 : Nat) (v2 : Int32) (v3 : Int32) (v4 : Int32) (v5 : Int32) (v6 : Int32) (v7 : Int32) (v8 : Int32) (v9 : Int32) (v10 : Int32) (v11 : Int32) (g : Nat → Int32) (o : Int32) : va_W := [(h0, .inr (11, [.ref h1, .ref h2, .ref h3, .ref h4, .ref h5, .int o, .int v2, .int v3, .int v4, .int v5, .ref h6, .int v6, .ref h7, .ref h8, .ref h9, .int v7, .int v8, .int v9, .int v10, .int v11])), (h1, .inl (cy 0, 64, .inl (g)))]
set_option maxHeartbeats 4000000 in
set_option maxRecDepth 100000 in
theorem c_X9_recordScore_1 (l : Launch) {E : zEn} (hE : zEok E) (D : zG) (cy : Nat → ClassId) (h0 h1 h2 h3 h4 h5 h6 h7 h8 h9 : Nat) (v1 : Int32) (v2 : Int32) (v3 : Int32) (v4 : Int32) (v5 : Int32) (v6 : Int32) (v7 : Int32) (v8 : Int32) (v9 : Int32) (v10 : Int32) (v11 : Int32) (g : Nat → Int32) (x : Int32) (hin : n_X9_in x 0 ((g 13) - 1) = 0) (sz : Nat) : Met l yX9_recordScore (zws yX9_recordScore cX9_recordScore 2 (some .int)) { frames := 2, cells := 0, slots := 0, locals := 44 } (zPre E D cy [.ref h0, .int x] [(h0, .inr (11, [.ref h1, .ref h2, .ref h3, .ref h4, .ref h5, .int v1, .int v2, .int v3, .int v4, .int v5, .ref h6, .int v6, .ref h7, .ref h8, .ref h9, .int v7, .int v8, .int v9, .int v10, .int v11])), (h1, .inl (cy 0, 64, .inl (g)))] sz) (zQi D ((q_X9_recordScore_1 cy h0 h1 h2 h3 h4 h5 h6 h7 h8 h9 v2 v3 v4 v5 v6 v7 v8 v9 v10 v11 g) (n_X9_recordScore_1 g x)) (va_A [(h0, .inr (11, [.ref h1, .ref h2, .ref h3, .ref h4, .ref h5, .int v1, .int v2, .int v3, .int v4, .int v5, .ref h6, .int v6, .ref h7, .ref h8, .ref h9, .int v7, .int v8, .int v9, .int v10, .int v11])), (h1, .inl (cy 0, 64, .inl (g)))] sz) (0)) 0 0 (va_A [(h0, .inr (11, [.ref h1, .ref h2, .ref h3, .ref h4, .ref h5, .int v1, .int v2, .int v3, .int v4, .int v5, .ref h6, .int v6, .ref h7, .ref h8, .ref h9, .int v7, .int v8, .int v9, .int v10, .int v11])), (h1, .inl (cy 0, 64, .inl (g)))] sz) := by
  refine z_of (Qc := fun A => zQi D ((q_X9_recordScore_1 cy h0 h1 h2 h3 h4 h5 h6 h7 h8 h9 v2 v3 v4 v5 v6 v7 v8 v9 v10 v11 g) (n_X9_recordScore_1 g x)) A (0)) (by decide +kernel) (Nat.le_of_ble_eq_true rfl) rfl ?_
  intro pG eN sT mI below meth cO A ls C hRT hnm hA hP hD hS hE0 hl
  have hX := C.x
  have hB := C.b
  refine lv_aload_n hX hB dX9_recordScore_0 rfl (lv_at hl 0 rfl) ?_
  refine lv_iload_n hX hB dX9_recordScore_1 rfl (lv_at hl 1 rfl) ?_
  refine lv_iconst (v := 0) hX hB dX9_recordScore_2 (by decide) ?_
  refine z_callVi (isC := [0, 1]) (isR := []) (isO := [0, 1]) (n_X9_record0_1 g x) (q_X9_record0_1 cy h0 h1 h2 h3 h4 h5 h6 h7 h8 h9 v2 v3 v4 v5 v6 v7 v8 v9 v10 v11 g) (fun o_1 => [(h0, .inr (11, [.ref h1, .ref h2, .ref h3, .ref h4, .ref h5, .int o_1, .int v2, .int v3, .int v4, .int v5, .ref h6, .int v6, .ref h7, .ref h8, .ref h9, .int v7, .int v8, .int v9, .int v10, .int v11])), (h1, .inl (cy 0, 64, .inl (g)))]) (fun o_1 => 0) (c_X9_record0_1 l hE D cy h0 h1 h2 h3 h4 h5 h6 h7 h8 h9 v1 v2 v3 v4 v5 v6 v7 v8 v9 v10 v11 g x hin) hE C zs_X9_187 ⟨Nat.le_of_ble_eq_true rfl, Nat.le_of_ble_eq_true rfl⟩ hP hD hS hA hE0 ⟨rfl, rfl, rfl, by decide, rfl, rfl, rfl⟩ 0 rfl rfl rfl rfl hl.1 (Nat.le_of_ble_eq_true rfl) rfl dX9_recordScore_3 ⟨Nat.le_of_ble_eq_true rfl, Nat.le_of_ble_eq_true rfl⟩ (fun o_1 H locs eo_1 hP hD hS => ?_)
  exact z_iret' o_1 (w' := q_X9_recordScore_1 cy h0 h1 h2 h3 h4 h5 h6 h7 h8 h9 v2 v3 v4 v5 v6 v7 v8 v9 v10 v11 g) (r0 := (fun (o : Int32) => 0)) (by simp only [n_X9_recordScore_1, ← eo_1]) C hRT hP hD hS (Nat.le_of_ble_eq_true rfl) (Nat.le_of_ble_eq_true rfl) rfl rfl dX9_recordScore_6

def n_X9_record1_ok (g : Nat → Int32) (i : Nat) : Int32 × Int32 :=
  (g ((46 + (3 * i)) + 1), 0)
def q_X9_record1_ok (cy : Nat → ClassId) (h0 : Nat) (h1 : Nat) (h2 : Nat) (h3 : Nat) (h4 : Nat) (h5 : Nat) (h6 : Nat) (h7 : Nat) (h8 : Nat) (h9 : Nat) (v2 : Int32) (v3 : Int32) (v4 : Int32) (v5 : Int32) (v6 : Int32) (v7 : Int32) (v8 : Int32) (v9 : Int32) (v10 : Int32) (v11 : Int32) (g : Nat → Int32) (o : Int32 × Int32) : va_W := [(h0, .inr (11, [.ref h1, .ref h2, .ref h3, .ref h4, .ref h5, .int o.2, .int v2, .int v3, .int v4, .int v5, .ref h6, .int v6, .ref h7, .ref h8, .ref h9, .int v7, .int v8, .int v9, .int v10, .int v11])), (h1, .inl (cy 0, 64, .inl (g)))]
set_option maxHeartbeats 4000000 in
set_option maxRecDepth 100000 in
theorem c_X9_record1_ok (l : Launch) {E : zEn} (hE : zEok E) (D : zG) (cy : Nat → ClassId) (h0 h1 h2 h3 h4 h5 h6 h7 h8 h9 : Nat) (v1 : Int32) (v2 : Int32) (v3 : Int32) (v4 : Int32) (v5 : Int32) (v6 : Int32) (v7 : Int32) (v8 : Int32) (v9 : Int32) (v10 : Int32) (v11 : Int32) (g : Nat → Int32) (x : Int32) (i : Nat) (hx : zi x i) (hi : i < zn (g 13)) (hq : zle (g 13) 5) (sz : Nat) : Met l yX9_record (zws yX9_record cX9_record 3 (some .int)) { frames := 1, cells := 0, slots := 0, locals := 22 } (zPre E D cy [.ref h0, .int x, .int 1] [(h0, .inr (11, [.ref h1, .ref h2, .ref h3, .ref h4, .ref h5, .int v1, .int v2, .int v3, .int v4, .int v5, .ref h6, .int v6, .ref h7, .ref h8, .ref h9, .int v7, .int v8, .int v9, .int v10, .int v11])), (h1, .inl (cy 0, 64, .inl (g)))] sz) (zQi D ((q_X9_record1_ok cy h0 h1 h2 h3 h4 h5 h6 h7 h8 h9 v2 v3 v4 v5 v6 v7 v8 v9 v10 v11 g) (n_X9_record1_ok g i)) (va_A [(h0, .inr (11, [.ref h1, .ref h2, .ref h3, .ref h4, .ref h5, .int v1, .int v2, .int v3, .int v4, .int v5, .ref h6, .int v6, .ref h7, .ref h8, .ref h9, .int v7, .int v8, .int v9, .int v10, .int v11])), (h1, .inl (cy 0, 64, .inl (g)))] sz) ((n_X9_record1_ok g i).1)) 0 0 (va_A [(h0, .inr (11, [.ref h1, .ref h2, .ref h3, .ref h4, .ref h5, .int v1, .int v2, .int v3, .int v4, .int v5, .ref h6, .int v6, .ref h7, .ref h8, .ref h9, .int v7, .int v8, .int v9, .int v10, .int v11])), (h1, .inl (cy 0, 64, .inl (g)))] sz) := by
  refine z_of (Qc := fun A => zQi D ((q_X9_record1_ok cy h0 h1 h2 h3 h4 h5 h6 h7 h8 h9 v2 v3 v4 v5 v6 v7 v8 v9 v10 v11 g) (n_X9_record1_ok g i)) A ((n_X9_record1_ok g i).1)) (by decide +kernel) (Nat.le_of_ble_eq_true rfl) rfl ?_
  intro pG eN sT mI below meth cO A ls C hRT hnm hA hP hD hS hE0 hl
  have hX := C.x
  have hB := C.b
  have hq_ := hq.2
  refine lv_aload_n hX hB dX9_record_0 rfl (lv_at hl 0 rfl) ?_
  refine lv_iload_n hX hB dX9_record_1 rfl (lv_at hl 1 rfl) ?_
  refine lv_iconst (v := 0) hX hB dX9_record_2 (by decide) ?_
  refine lv_aload_n hX hB dX9_record_3 rfl (lv_at hl 0 rfl) ?_
  refine fg_X9_7 C hP 0 rfl rfl dX9_record_4 ?_
  refine lv_bipush (v := 13) hX hB dX9_record_7 (by decide) ?_
  refine z_iald C hP 1 rfl (k := 13) (zlit 13) (by decide) (by decide) (v := g 13) rfl dX9_record_9 ?_
  refine lv_iconst (v := 1) hX hB dX9_record_10 (by decide) ?_
  refine z_isub (v := nI ((zn (g 13)) - 1)) C dX9_record_11 (zi_sub hq.1 (zlit 1) (by omega)) ?_
  refine z_callSi (isC := []) (isR := [0, 1]) (isO := [0, 1]) (()) (q_X9_in_t ) (fun o_1 => [(h0, .inr (11, [.ref h1, .ref h2, .ref h3, .ref h4, .ref h5, .int v1, .int v2, .int v3, .int v4, .int v5, .ref h6, .int v6, .ref h7, .ref h8, .ref h9, .int v7, .int v8, .int v9, .int v10, .int v11])), (h1, .inl (cy 0, 64, .inl (g)))]) (fun o_1 => 1) (c_X9_in_t l hE D cy  x i 0 0 (nI ((zn (g 13)) - 1)) ((zn (g 13)) - 1) hx (zlit 0) (zi_i ((zn (g 13)) - 1)) (by omega) (by omega) (by omega)) hE C zs_X9_127 ⟨Nat.le_of_ble_eq_true rfl, Nat.le_of_ble_eq_true rfl⟩ hP hD hS hA hE0 ⟨rfl, rfl, rfl, by decide, rfl, rfl, rfl⟩ rfl hl.1 (Nat.le_of_ble_eq_true rfl) rfl dX9_record_12 ⟨Nat.le_of_ble_eq_true rfl, Nat.le_of_ble_eq_true rfl⟩ (fun o_1 H locs eo_1 hP hD hS => ?_)
  refine lv_if_eq (tgt := 22) hX hB dX9_record_15 (by decide) (fun c => absurd c (by decide)) (fun _ => ?_)
  refine lv_iconst (v := 0) hX hB dX9_record_18 (by decide) ?_
  refine lv_goto (tgt := 23) hX hB dX9_record_19 (by decide) ?_
  refine fp_X9_25 C hP hD hS 0 rfl rfl rfl (Nat.le_of_ble_eq_true rfl) (w' := [(h0, .inr (11, [.ref h1, .ref h2, .ref h3, .ref h4, .ref h5, .int 0, .int v2, .int v3, .int v4, .int v5, .ref h6, .int v6, .ref h7, .ref h8, .ref h9, .int v7, .int v8, .int v9, .int v10, .int v11])), (h1, .inl (cy 0, 64, .inl (g)))]) rfl dX9_record_23 (fun H locs hP hD hS => ?_)
  refine lv_aload_n hX hB dX9_record_26 rfl (lv_at hl 0 rfl) ?_
  refine fg_X9_25 C hP 0 rfl rfl dX9_record_27 ?_
  refine lv_if_le (tgt := 37) hX hB dX9_record_30 (by decide) (fun _ => ?_) (fun c => absurd (by decide) c)
  refine lv_aload_n hX hB dX9_record_37 rfl (lv_at hl 0 rfl) ?_
  refine fg_X9_7 C hP 0 rfl rfl dX9_record_38 ?_
  refine lv_bipush (v := 46) hX hB dX9_record_41 (by decide) ?_
  refine lv_iconst (v := 3) hX hB dX9_record_43 (by decide) ?_
  refine lv_iload_n hX hB dX9_record_44 rfl (lv_at hl 1 rfl) ?_
  refine z_imul (v := nI (3 * i)) C dX9_record_45 (zi_mul (zlit 3) hx) ?_
  refine z_iadd (v := nI (46 + (3 * i))) C dX9_record_46 (zi_add (zlit 46) (zi_i (3 * i))) ?_
  refine lv_iload_n hX hB dX9_record_47 rfl (lv_at hl 2 rfl) ?_
  refine z_iadd (v := nI ((46 + (3 * i)) + 1)) C dX9_record_48 (zi_add (zi_i (46 + (3 * i))) (zlit 1)) ?_
  refine z_iald C hP 1 rfl (k := (46 + (3 * i)) + 1) (zi_i ((46 + (3 * i)) + 1)) (by omega) (by decide) (v := g ((46 + (3 * i)) + 1)) rfl dX9_record_49 ?_
  exact z_iret' (g ((46 + (3 * i)) + 1), 0) (w' := q_X9_record1_ok cy h0 h1 h2 h3 h4 h5 h6 h7 h8 h9 v2 v3 v4 v5 v6 v7 v8 v9 v10 v11 g) (r0 := (fun (o : Int32 × Int32) => o.1)) (by simp only [n_X9_record1_ok]) C hRT hP hD hS (Nat.le_of_ble_eq_true rfl) (Nat.le_of_ble_eq_true rfl) rfl rfl dX9_record_50

def n_X9_record1_1 (g : Nat → Int32) (x : Int32) : Int32 :=
  let o_1 := n_X9_in x 0 ((g 13) - 1)
  1
def q_X9_record1_1 (cy : Nat → ClassId) (h0 : Nat) (h1 : Nat) (h2 : Nat) (h3 : Nat) (h4 : Nat) (h5 : Nat) (h6 : Nat) (h7 : Nat) (h8 : Nat) (h9 : Nat) (v2 : Int32) (v3 : Int32) (v4 : Int32) (v5 : Int32) (v6 : Int32) (v7 : Int32) (v8 : Int32) (v9 : Int32) (v10 : Int32) (v11 : Int32) (g : Nat → Int32) (o : Int32) : va_W := [(h0, .inr (11, [.ref h1, .ref h2, .ref h3, .ref h4, .ref h5, .int o, .int v2, .int v3, .int v4, .int v5, .ref h6, .int v6, .ref h7, .ref h8, .ref h9, .int v7, .int v8, .int v9, .int v10, .int v11])), (h1, .inl (cy 0, 64, .inl (g)))]
set_option maxHeartbeats 4000000 in
set_option maxRecDepth 100000 in
theorem c_X9_record1_1 (l : Launch) {E : zEn} (hE : zEok E) (D : zG) (cy : Nat → ClassId) (h0 h1 h2 h3 h4 h5 h6 h7 h8 h9 : Nat) (v1 : Int32) (v2 : Int32) (v3 : Int32) (v4 : Int32) (v5 : Int32) (v6 : Int32) (v7 : Int32) (v8 : Int32) (v9 : Int32) (v10 : Int32) (v11 : Int32) (g : Nat → Int32) (x : Int32) (hin : n_X9_in x 0 ((g 13) - 1) = 0) (sz : Nat) : Met l yX9_record (zws yX9_record cX9_record 3 (some .int)) { frames := 1, cells := 0, slots := 0, locals := 22 } (zPre E D cy [.ref h0, .int x, .int 1] [(h0, .inr (11, [.ref h1, .ref h2, .ref h3, .ref h4, .ref h5, .int v1, .int v2, .int v3, .int v4, .int v5, .ref h6, .int v6, .ref h7, .ref h8, .ref h9, .int v7, .int v8, .int v9, .int v10, .int v11])), (h1, .inl (cy 0, 64, .inl (g)))] sz) (zQi D ((q_X9_record1_1 cy h0 h1 h2 h3 h4 h5 h6 h7 h8 h9 v2 v3 v4 v5 v6 v7 v8 v9 v10 v11 g) (n_X9_record1_1 g x)) (va_A [(h0, .inr (11, [.ref h1, .ref h2, .ref h3, .ref h4, .ref h5, .int v1, .int v2, .int v3, .int v4, .int v5, .ref h6, .int v6, .ref h7, .ref h8, .ref h9, .int v7, .int v8, .int v9, .int v10, .int v11])), (h1, .inl (cy 0, 64, .inl (g)))] sz) (0)) 0 0 (va_A [(h0, .inr (11, [.ref h1, .ref h2, .ref h3, .ref h4, .ref h5, .int v1, .int v2, .int v3, .int v4, .int v5, .ref h6, .int v6, .ref h7, .ref h8, .ref h9, .int v7, .int v8, .int v9, .int v10, .int v11])), (h1, .inl (cy 0, 64, .inl (g)))] sz) := by
  refine z_of (Qc := fun A => zQi D ((q_X9_record1_1 cy h0 h1 h2 h3 h4 h5 h6 h7 h8 h9 v2 v3 v4 v5 v6 v7 v8 v9 v10 v11 g) (n_X9_record1_1 g x)) A (0)) (by decide +kernel) (Nat.le_of_ble_eq_true rfl) rfl ?_
  intro pG eN sT mI below meth cO A ls C hRT hnm hA hP hD hS hE0 hl
  have hX := C.x
  have hB := C.b
  refine lv_aload_n hX hB dX9_record_0 rfl (lv_at hl 0 rfl) ?_
  refine lv_iload_n hX hB dX9_record_1 rfl (lv_at hl 1 rfl) ?_
  refine lv_iconst (v := 0) hX hB dX9_record_2 (by decide) ?_
  refine lv_aload_n hX hB dX9_record_3 rfl (lv_at hl 0 rfl) ?_
  refine fg_X9_7 C hP 0 rfl rfl dX9_record_4 ?_
  refine lv_bipush (v := 13) hX hB dX9_record_7 (by decide) ?_
  refine z_iald C hP 1 rfl (k := 13) (zlit 13) (by decide) (by decide) (v := g 13) rfl dX9_record_9 ?_
  refine lv_iconst (v := 1) hX hB dX9_record_10 (by decide) ?_
  refine z_isub (v := (g 13) - 1) C dX9_record_11 rfl ?_
  refine z_callSi (isC := []) (isR := [0, 1]) (isO := [0, 1]) (n_X9_in x 0 ((g 13) - 1)) (q_X9_in ) (fun o_1 => [(h0, .inr (11, [.ref h1, .ref h2, .ref h3, .ref h4, .ref h5, .int v1, .int v2, .int v3, .int v4, .int v5, .ref h6, .int v6, .ref h7, .ref h8, .ref h9, .int v7, .int v8, .int v9, .int v10, .int v11])), (h1, .inl (cy 0, 64, .inl (g)))]) (fun o_1 => o_1) (c_X9_in l hE D cy  x 0 ((g 13) - 1) ) hE C zs_X9_127 ⟨Nat.le_of_ble_eq_true rfl, Nat.le_of_ble_eq_true rfl⟩ hP hD hS hA hE0 ⟨rfl, rfl, rfl, by decide, rfl, rfl, rfl⟩ rfl hl.1 (Nat.le_of_ble_eq_true rfl) rfl dX9_record_12 ⟨Nat.le_of_ble_eq_true rfl, Nat.le_of_ble_eq_true rfl⟩ (fun o_1 H locs eo_1 hP hD hS => ?_)
  refine lv_if_eq (tgt := 22) hX hB dX9_record_15 (by decide) (fun _ => ?_) (fun c => absurd (by rw [eo_1]; exact hin) c)
  refine lv_iconst (v := 1) hX hB dX9_record_22 (by decide) ?_
  refine fp_X9_25 C hP hD hS 0 rfl rfl rfl (Nat.le_of_ble_eq_true rfl) (w' := [(h0, .inr (11, [.ref h1, .ref h2, .ref h3, .ref h4, .ref h5, .int 1, .int v2, .int v3, .int v4, .int v5, .ref h6, .int v6, .ref h7, .ref h8, .ref h9, .int v7, .int v8, .int v9, .int v10, .int v11])), (h1, .inl (cy 0, 64, .inl (g)))]) rfl dX9_record_23 (fun H locs hP hD hS => ?_)
  refine lv_aload_n hX hB dX9_record_26 rfl (lv_at hl 0 rfl) ?_
  refine fg_X9_25 C hP 0 rfl rfl dX9_record_27 ?_
  refine lv_if_le (tgt := 37) hX hB dX9_record_30 (by decide) (fun c => absurd c (by decide)) (fun _ => ?_)
  refine lv_iconst (v := 0) hX hB dX9_record_33 (by decide) ?_
  refine lv_goto (tgt := 50) hX hB dX9_record_34 (by decide) ?_
  exact z_iret' 1 (w' := q_X9_record1_1 cy h0 h1 h2 h3 h4 h5 h6 h7 h8 h9 v2 v3 v4 v5 v6 v7 v8 v9 v10 v11 g) (r0 := (fun (o : Int32) => 0)) (by simp only [n_X9_record1_1, ← eo_1]) C hRT hP hD hS (Nat.le_of_ble_eq_true rfl) (Nat.le_of_ble_eq_true rfl) rfl rfl dX9_record_50

def n_X9_recordPlayer_ok (g : Nat → Int32) (i : Nat) : Int32 × Int32 :=
  let o_1 := n_X9_record1_ok g i
  (o_1.1, o_1.2)
def q_X9_recordPlayer_ok (cy : Nat → ClassId) (h0 : Nat) (h1 : Nat) (h2 : Nat) (h3 : Nat) (h4 : Nat) (h5 : Nat) (h6 : Nat) (h7 : Nat) (h8 : Nat) (h9 : Nat) (v2 : Int32) (v3 : Int32) (v4 : Int32) (v5 : Int32) (v6 : Int32) (v7 : Int32) (v8 : Int32) (v9 : Int32) (v10 : Int32) (v11 : Int32) (g : Nat → Int32) (o : Int32 × Int32) : va_W := [(h0, .inr (11, [.ref h1, .ref h2, .ref h3, .ref h4, .ref h5, .int o.2, .int v2, .int v3, .int v4, .int v5, .ref h6, .int v6, .ref h7, .ref h8, .ref h9, .int v7, .int v8, .int v9, .int v10, .int v11])), (h1, .inl (cy 0, 64, .inl (g)))]
set_option maxHeartbeats 4000000 in
set_option maxRecDepth 100000 in
theorem c_X9_recordPlayer_ok (l : Launch) {E : zEn} (hE : zEok E) (D : zG) (cy : Nat → ClassId) (h0 h1 h2 h3 h4 h5 h6 h7 h8 h9 : Nat) (v1 : Int32) (v2 : Int32) (v3 : Int32) (v4 : Int32) (v5 : Int32) (v6 : Int32) (v7 : Int32) (v8 : Int32) (v9 : Int32) (v10 : Int32) (v11 : Int32) (g : Nat → Int32) (x : Int32) (i : Nat) (hx : zi x i) (hi : i < zn (g 13)) (hq : zle (g 13) 5) (sz : Nat) : Met l yX9_recordPlayer (zws yX9_recordPlayer cX9_recordPlayer 2 (some .int)) { frames := 2, cells := 0, slots := 0, locals := 44 } (zPre E D cy [.ref h0, .int x] [(h0, .inr (11, [.ref h1, .ref h2, .ref h3, .ref h4, .ref h5, .int v1, .int v2, .int v3, .int v4, .int v5, .ref h6, .int v6, .ref h7, .ref h8, .ref h9, .int v7, .int v8, .int v9, .int v10, .int v11])), (h1, .inl (cy 0, 64, .inl (g)))] sz) (zQi D ((q_X9_recordPlayer_ok cy h0 h1 h2 h3 h4 h5 h6 h7 h8 h9 v2 v3 v4 v5 v6 v7 v8 v9 v10 v11 g) (n_X9_recordPlayer_ok g i)) (va_A [(h0, .inr (11, [.ref h1, .ref h2, .ref h3, .ref h4, .ref h5, .int v1, .int v2, .int v3, .int v4, .int v5, .ref h6, .int v6, .ref h7, .ref h8, .ref h9, .int v7, .int v8, .int v9, .int v10, .int v11])), (h1, .inl (cy 0, 64, .inl (g)))] sz) ((n_X9_recordPlayer_ok g i).1)) 0 0 (va_A [(h0, .inr (11, [.ref h1, .ref h2, .ref h3, .ref h4, .ref h5, .int v1, .int v2, .int v3, .int v4, .int v5, .ref h6, .int v6, .ref h7, .ref h8, .ref h9, .int v7, .int v8, .int v9, .int v10, .int v11])), (h1, .inl (cy 0, 64, .inl (g)))] sz) := by
  refine z_of (Qc := fun A => zQi D ((q_X9_recordPlayer_ok cy h0 h1 h2 h3 h4 h5 h6 h7 h8 h9 v2 v3 v4 v5 v6 v7 v8 v9 v10 v11 g) (n_X9_recordPlayer_ok g i)) A ((n_X9_recordPlayer_ok g i).1)) (by decide +kernel) (Nat.le_of_ble_eq_true rfl) rfl ?_
  intro pG eN sT mI below meth cO A ls C hRT hnm hA hP hD hS hE0 hl
  have hX := C.x
  have hB := C.b
  have hq_ := hq.2
  refine lv_aload_n hX hB dX9_recordPlayer_0 rfl (lv_at hl 0 rfl) ?_
  refine lv_iload_n hX hB dX9_recordPlayer_1 rfl (lv_at hl 1 rfl) ?_
  refine lv_iconst (v := 1) hX hB dX9_recordPlayer_2 (by decide) ?_
  refine z_callVi (isC := [0, 1]) (isR := []) (isO := [0, 1]) (n_X9_record1_ok g i) (q_X9_record1_ok cy h0 h1 h2 h3 h4 h5 h6 h7 h8 h9 v2 v3 v4 v5 v6 v7 v8 v9 v10 v11 g) (fun o_1 => [(h0, .inr (11, [.ref h1, .ref h2, .ref h3, .ref h4, .ref h5, .int o_1.2, .int v2, .int v3, .int v4, .int v5, .ref h6, .int v6, .ref h7, .ref h8, .ref h9, .int v7, .int v8, .int v9, .int v10, .int v11])), (h1, .inl (cy 0, 64, .inl (g)))]) (fun o_1 => o_1.1) (c_X9_record1_ok l hE D cy h0 h1 h2 h3 h4 h5 h6 h7 h8 h9 v1 v2 v3 v4 v5 v6 v7 v8 v9 v10 v11 g x i hx (by omega) (zle_of (zi_tr rfl hq.1) (by omega) (by decide))) hE C zs_X9_187 ⟨Nat.le_of_ble_eq_true rfl, Nat.le_of_ble_eq_true rfl⟩ hP hD hS hA hE0 ⟨rfl, rfl, rfl, by decide, rfl, rfl, rfl⟩ 0 rfl rfl rfl rfl hl.1 (Nat.le_of_ble_eq_true rfl) rfl dX9_recordPlayer_3 ⟨Nat.le_of_ble_eq_true rfl, Nat.le_of_ble_eq_true rfl⟩ (fun o_1 H locs eo_1 hP hD hS => ?_)
  exact z_iret' (o_1.1, o_1.2) (w' := q_X9_recordPlayer_ok cy h0 h1 h2 h3 h4 h5 h6 h7 h8 h9 v2 v3 v4 v5 v6 v7 v8 v9 v10 v11 g) (r0 := (fun (o : Int32 × Int32) => o.1)) (by simp only [n_X9_recordPlayer_ok, ← eo_1]) C hRT hP hD hS (Nat.le_of_ble_eq_true rfl) (Nat.le_of_ble_eq_true rfl) rfl rfl dX9_recordPlayer_6

def n_X9_recordPlayer_1 (g : Nat → Int32) (x : Int32) : Int32 :=
  let o_1 := n_X9_record1_1 g x
  o_1
def q_X9_recordPlayer_1 (cy : Nat → ClassId) (h0 : Nat) (h1 : Nat) (h2 : Nat) (h3 : Nat) (h4 : Nat) (h5 : Nat) (h6 : Nat) (h7 : Nat) (h8 : Nat) (h9 : Nat) (v2 : Int32) (v3 : Int32) (v4 : Int32) (v5 : Int32) (v6 : Int32) (v7 : Int32) (v8 : Int32) (v9 : Int32) (v10 : Int32) (v11 : Int32) (g : Nat → Int32) (o : Int32) : va_W := [(h0, .inr (11, [.ref h1, .ref h2, .ref h3, .ref h4, .ref h5, .int o, .int v2, .int v3, .int v4, .int v5, .ref h6, .int v6, .ref h7, .ref h8, .ref h9, .int v7, .int v8, .int v9, .int v10, .int v11])), (h1, .inl (cy 0, 64, .inl (g)))]
set_option maxHeartbeats 4000000 in
set_option maxRecDepth 100000 in
theorem c_X9_recordPlayer_1 (l : Launch) {E : zEn} (hE : zEok E) (D : zG) (cy : Nat → ClassId) (h0 h1 h2 h3 h4 h5 h6 h7 h8 h9 : Nat) (v1 : Int32) (v2 : Int32) (v3 : Int32) (v4 : Int32) (v5 : Int32) (v6 : Int32) (v7 : Int32) (v8 : Int32) (v9 : Int32) (v10 : Int32) (v11 : Int32) (g : Nat → Int32) (x : Int32) (hin : n_X9_in x 0 ((g 13) - 1) = 0) (sz : Nat) : Met l yX9_recordPlayer (zws yX9_recordPlayer cX9_recordPlayer 2 (some .int)) { frames := 2, cells := 0, slots := 0, locals := 44 } (zPre E D cy [.ref h0, .int x] [(h0, .inr (11, [.ref h1, .ref h2, .ref h3, .ref h4, .ref h5, .int v1, .int v2, .int v3, .int v4, .int v5, .ref h6, .int v6, .ref h7, .ref h8, .ref h9, .int v7, .int v8, .int v9, .int v10, .int v11])), (h1, .inl (cy 0, 64, .inl (g)))] sz) (zQi D ((q_X9_recordPlayer_1 cy h0 h1 h2 h3 h4 h5 h6 h7 h8 h9 v2 v3 v4 v5 v6 v7 v8 v9 v10 v11 g) (n_X9_recordPlayer_1 g x)) (va_A [(h0, .inr (11, [.ref h1, .ref h2, .ref h3, .ref h4, .ref h5, .int v1, .int v2, .int v3, .int v4, .int v5, .ref h6, .int v6, .ref h7, .ref h8, .ref h9, .int v7, .int v8, .int v9, .int v10, .int v11])), (h1, .inl (cy 0, 64, .inl (g)))] sz) (0)) 0 0 (va_A [(h0, .inr (11, [.ref h1, .ref h2, .ref h3, .ref h4, .ref h5, .int v1, .int v2, .int v3, .int v4, .int v5, .ref h6, .int v6, .ref h7, .ref h8, .ref h9, .int v7, .int v8, .int v9, .int v10, .int v11])), (h1, .inl (cy 0, 64, .inl (g)))] sz) := by
  refine z_of (Qc := fun A => zQi D ((q_X9_recordPlayer_1 cy h0 h1 h2 h3 h4 h5 h6 h7 h8 h9 v2 v3 v4 v5 v6 v7 v8 v9 v10 v11 g) (n_X9_recordPlayer_1 g x)) A (0)) (by decide +kernel) (Nat.le_of_ble_eq_true rfl) rfl ?_
  intro pG eN sT mI below meth cO A ls C hRT hnm hA hP hD hS hE0 hl
  have hX := C.x
  have hB := C.b
  refine lv_aload_n hX hB dX9_recordPlayer_0 rfl (lv_at hl 0 rfl) ?_
  refine lv_iload_n hX hB dX9_recordPlayer_1 rfl (lv_at hl 1 rfl) ?_
  refine lv_iconst (v := 1) hX hB dX9_recordPlayer_2 (by decide) ?_
  refine z_callVi (isC := [0, 1]) (isR := []) (isO := [0, 1]) (n_X9_record1_1 g x) (q_X9_record1_1 cy h0 h1 h2 h3 h4 h5 h6 h7 h8 h9 v2 v3 v4 v5 v6 v7 v8 v9 v10 v11 g) (fun o_1 => [(h0, .inr (11, [.ref h1, .ref h2, .ref h3, .ref h4, .ref h5, .int o_1, .int v2, .int v3, .int v4, .int v5, .ref h6, .int v6, .ref h7, .ref h8, .ref h9, .int v7, .int v8, .int v9, .int v10, .int v11])), (h1, .inl (cy 0, 64, .inl (g)))]) (fun o_1 => 0) (c_X9_record1_1 l hE D cy h0 h1 h2 h3 h4 h5 h6 h7 h8 h9 v1 v2 v3 v4 v5 v6 v7 v8 v9 v10 v11 g x hin) hE C zs_X9_187 ⟨Nat.le_of_ble_eq_true rfl, Nat.le_of_ble_eq_true rfl⟩ hP hD hS hA hE0 ⟨rfl, rfl, rfl, by decide, rfl, rfl, rfl⟩ 0 rfl rfl rfl rfl hl.1 (Nat.le_of_ble_eq_true rfl) rfl dX9_recordPlayer_3 ⟨Nat.le_of_ble_eq_true rfl, Nat.le_of_ble_eq_true rfl⟩ (fun o_1 H locs eo_1 hP hD hS => ?_)
  exact z_iret' o_1 (w' := q_X9_recordPlayer_1 cy h0 h1 h2 h3 h4 h5 h6 h7 h8 h9 v2 v3 v4 v5 v6 v7 v8 v9 v10 v11 g) (r0 := (fun (o : Int32) => 0)) (by simp only [n_X9_recordPlayer_1, ← eo_1]) C hRT hP hD hS (Nat.le_of_ble_eq_true rfl) (Nat.le_of_ble_eq_true rfl) rfl rfl dX9_recordPlayer_6

def n_X9_record2_ok (g : Nat → Int32) (i : Nat) : Int32 × Int32 :=
  (g ((46 + (3 * i)) + 2), 0)
def q_X9_record2_ok (cy : Nat → ClassId) (h0 : Nat) (h1 : Nat) (h2 : Nat) (h3 : Nat) (h4 : Nat) (h5 : Nat) (h6 : Nat) (h7 : Nat) (h8 : Nat) (h9 : Nat) (v2 : Int32) (v3 : Int32) (v4 : Int32) (v5 : Int32) (v6 : Int32) (v7 : Int32) (v8 : Int32) (v9 : Int32) (v10 : Int32) (v11 : Int32) (g : Nat → Int32) (o : Int32 × Int32) : va_W := [(h0, .inr (11, [.ref h1, .ref h2, .ref h3, .ref h4, .ref h5, .int o.2, .int v2, .int v3, .int v4, .int v5, .ref h6, .int v6, .ref h7, .ref h8, .ref h9, .int v7, .int v8, .int v9, .int v10, .int v11])), (h1, .inl (cy 0, 64, .inl (g)))]
set_option maxHeartbeats 4000000 in
set_option maxRecDepth 100000 in
theorem c_X9_record2_ok (l : Launch) {E : zEn} (hE : zEok E) (D : zG) (cy : Nat → ClassId) (h0 h1 h2 h3 h4 h5 h6 h7 h8 h9 : Nat) (v1 : Int32) (v2 : Int32) (v3 : Int32) (v4 : Int32) (v5 : Int32) (v6 : Int32) (v7 : Int32) (v8 : Int32) (v9 : Int32) (v10 : Int32) (v11 : Int32) (g : Nat → Int32) (x : Int32) (i : Nat) (hx : zi x i) (hi : i < zn (g 13)) (hq : zle (g 13) 5) (sz : Nat) : Met l yX9_record (zws yX9_record cX9_record 3 (some .int)) { frames := 1, cells := 0, slots := 0, locals := 22 } (zPre E D cy [.ref h0, .int x, .int 2] [(h0, .inr (11, [.ref h1, .ref h2, .ref h3, .ref h4, .ref h5, .int v1, .int v2, .int v3, .int v4, .int v5, .ref h6, .int v6, .ref h7, .ref h8, .ref h9, .int v7, .int v8, .int v9, .int v10, .int v11])), (h1, .inl (cy 0, 64, .inl (g)))] sz) (zQi D ((q_X9_record2_ok cy h0 h1 h2 h3 h4 h5 h6 h7 h8 h9 v2 v3 v4 v5 v6 v7 v8 v9 v10 v11 g) (n_X9_record2_ok g i)) (va_A [(h0, .inr (11, [.ref h1, .ref h2, .ref h3, .ref h4, .ref h5, .int v1, .int v2, .int v3, .int v4, .int v5, .ref h6, .int v6, .ref h7, .ref h8, .ref h9, .int v7, .int v8, .int v9, .int v10, .int v11])), (h1, .inl (cy 0, 64, .inl (g)))] sz) ((n_X9_record2_ok g i).1)) 0 0 (va_A [(h0, .inr (11, [.ref h1, .ref h2, .ref h3, .ref h4, .ref h5, .int v1, .int v2, .int v3, .int v4, .int v5, .ref h6, .int v6, .ref h7, .ref h8, .ref h9, .int v7, .int v8, .int v9, .int v10, .int v11])), (h1, .inl (cy 0, 64, .inl (g)))] sz) := by
  refine z_of (Qc := fun A => zQi D ((q_X9_record2_ok cy h0 h1 h2 h3 h4 h5 h6 h7 h8 h9 v2 v3 v4 v5 v6 v7 v8 v9 v10 v11 g) (n_X9_record2_ok g i)) A ((n_X9_record2_ok g i).1)) (by decide +kernel) (Nat.le_of_ble_eq_true rfl) rfl ?_
  intro pG eN sT mI below meth cO A ls C hRT hnm hA hP hD hS hE0 hl
  have hX := C.x
  have hB := C.b
  have hq_ := hq.2
  refine lv_aload_n hX hB dX9_record_0 rfl (lv_at hl 0 rfl) ?_
  refine lv_iload_n hX hB dX9_record_1 rfl (lv_at hl 1 rfl) ?_
  refine lv_iconst (v := 0) hX hB dX9_record_2 (by decide) ?_
  refine lv_aload_n hX hB dX9_record_3 rfl (lv_at hl 0 rfl) ?_
  refine fg_X9_7 C hP 0 rfl rfl dX9_record_4 ?_
  refine lv_bipush (v := 13) hX hB dX9_record_7 (by decide) ?_
  refine z_iald C hP 1 rfl (k := 13) (zlit 13) (by decide) (by decide) (v := g 13) rfl dX9_record_9 ?_
  refine lv_iconst (v := 1) hX hB dX9_record_10 (by decide) ?_
  refine z_isub (v := nI ((zn (g 13)) - 1)) C dX9_record_11 (zi_sub hq.1 (zlit 1) (by omega)) ?_
  refine z_callSi (isC := []) (isR := [0, 1]) (isO := [0, 1]) (()) (q_X9_in_t ) (fun o_1 => [(h0, .inr (11, [.ref h1, .ref h2, .ref h3, .ref h4, .ref h5, .int v1, .int v2, .int v3, .int v4, .int v5, .ref h6, .int v6, .ref h7, .ref h8, .ref h9, .int v7, .int v8, .int v9, .int v10, .int v11])), (h1, .inl (cy 0, 64, .inl (g)))]) (fun o_1 => 1) (c_X9_in_t l hE D cy  x i 0 0 (nI ((zn (g 13)) - 1)) ((zn (g 13)) - 1) hx (zlit 0) (zi_i ((zn (g 13)) - 1)) (by omega) (by omega) (by omega)) hE C zs_X9_127 ⟨Nat.le_of_ble_eq_true rfl, Nat.le_of_ble_eq_true rfl⟩ hP hD hS hA hE0 ⟨rfl, rfl, rfl, by decide, rfl, rfl, rfl⟩ rfl hl.1 (Nat.le_of_ble_eq_true rfl) rfl dX9_record_12 ⟨Nat.le_of_ble_eq_true rfl, Nat.le_of_ble_eq_true rfl⟩ (fun o_1 H locs eo_1 hP hD hS => ?_)
  refine lv_if_eq (tgt := 22) hX hB dX9_record_15 (by decide) (fun c => absurd c (by decide)) (fun _ => ?_)
  refine lv_iconst (v := 0) hX hB dX9_record_18 (by decide) ?_
  refine lv_goto (tgt := 23) hX hB dX9_record_19 (by decide) ?_
  refine fp_X9_25 C hP hD hS 0 rfl rfl rfl (Nat.le_of_ble_eq_true rfl) (w' := [(h0, .inr (11, [.ref h1, .ref h2, .ref h3, .ref h4, .ref h5, .int 0, .int v2, .int v3, .int v4, .int v5, .ref h6, .int v6, .ref h7, .ref h8, .ref h9, .int v7, .int v8, .int v9, .int v10, .int v11])), (h1, .inl (cy 0, 64, .inl (g)))]) rfl dX9_record_23 (fun H locs hP hD hS => ?_)
  refine lv_aload_n hX hB dX9_record_26 rfl (lv_at hl 0 rfl) ?_
  refine fg_X9_25 C hP 0 rfl rfl dX9_record_27 ?_
  refine lv_if_le (tgt := 37) hX hB dX9_record_30 (by decide) (fun _ => ?_) (fun c => absurd (by decide) c)
  refine lv_aload_n hX hB dX9_record_37 rfl (lv_at hl 0 rfl) ?_
  refine fg_X9_7 C hP 0 rfl rfl dX9_record_38 ?_
  refine lv_bipush (v := 46) hX hB dX9_record_41 (by decide) ?_
  refine lv_iconst (v := 3) hX hB dX9_record_43 (by decide) ?_
  refine lv_iload_n hX hB dX9_record_44 rfl (lv_at hl 1 rfl) ?_
  refine z_imul (v := nI (3 * i)) C dX9_record_45 (zi_mul (zlit 3) hx) ?_
  refine z_iadd (v := nI (46 + (3 * i))) C dX9_record_46 (zi_add (zlit 46) (zi_i (3 * i))) ?_
  refine lv_iload_n hX hB dX9_record_47 rfl (lv_at hl 2 rfl) ?_
  refine z_iadd (v := nI ((46 + (3 * i)) + 2)) C dX9_record_48 (zi_add (zi_i (46 + (3 * i))) (zlit 2)) ?_
  refine z_iald C hP 1 rfl (k := (46 + (3 * i)) + 2) (zi_i ((46 + (3 * i)) + 2)) (by omega) (by decide) (v := g ((46 + (3 * i)) + 2)) rfl dX9_record_49 ?_
  exact z_iret' (g ((46 + (3 * i)) + 2), 0) (w' := q_X9_record2_ok cy h0 h1 h2 h3 h4 h5 h6 h7 h8 h9 v2 v3 v4 v5 v6 v7 v8 v9 v10 v11 g) (r0 := (fun (o : Int32 × Int32) => o.1)) (by simp only [n_X9_record2_ok]) C hRT hP hD hS (Nat.le_of_ble_eq_true rfl) (Nat.le_of_ble_eq_true rfl) rfl rfl dX9_record_50

def n_X9_record2_1 (g : Nat → Int32) (x : Int32) : Int32 :=
  let o_1 := n_X9_in x 0 ((g 13) - 1)
  1
def q_X9_record2_1 (cy : Nat → ClassId) (h0 : Nat) (h1 : Nat) (h2 : Nat) (h3 : Nat) (h4 : Nat) (h5 : Nat) (h6 : Nat) (h7 : Nat) (h8 : Nat) (h9 : Nat) (v2 : Int32) (v3 : Int32) (v4 : Int32) (v5 : Int32) (v6 : Int32) (v7 : Int32) (v8 : Int32) (v9 : Int32) (v10 : Int32) (v11 : Int32) (g : Nat → Int32) (o : Int32) : va_W := [(h0, .inr (11, [.ref h1, .ref h2, .ref h3, .ref h4, .ref h5, .int o, .int v2, .int v3, .int v4, .int v5, .ref h6, .int v6, .ref h7, .ref h8, .ref h9, .int v7, .int v8, .int v9, .int v10, .int v11])), (h1, .inl (cy 0, 64, .inl (g)))]
set_option maxHeartbeats 4000000 in
set_option maxRecDepth 100000 in
theorem c_X9_record2_1 (l : Launch) {E : zEn} (hE : zEok E) (D : zG) (cy : Nat → ClassId) (h0 h1 h2 h3 h4 h5 h6 h7 h8 h9 : Nat) (v1 : Int32) (v2 : Int32) (v3 : Int32) (v4 : Int32) (v5 : Int32) (v6 : Int32) (v7 : Int32) (v8 : Int32) (v9 : Int32) (v10 : Int32) (v11 : Int32) (g : Nat → Int32) (x : Int32) (hin : n_X9_in x 0 ((g 13) - 1) = 0) (sz : Nat) : Met l yX9_record (zws yX9_record cX9_record 3 (some .int)) { frames := 1, cells := 0, slots := 0, locals := 22 } (zPre E D cy [.ref h0, .int x, .int 2] [(h0, .inr (11, [.ref h1, .ref h2, .ref h3, .ref h4, .ref h5, .int v1, .int v2, .int v3, .int v4, .int v5, .ref h6, .int v6, .ref h7, .ref h8, .ref h9, .int v7, .int v8, .int v9, .int v10, .int v11])), (h1, .inl (cy 0, 64, .inl (g)))] sz) (zQi D ((q_X9_record2_1 cy h0 h1 h2 h3 h4 h5 h6 h7 h8 h9 v2 v3 v4 v5 v6 v7 v8 v9 v10 v11 g) (n_X9_record2_1 g x)) (va_A [(h0, .inr (11, [.ref h1, .ref h2, .ref h3, .ref h4, .ref h5, .int v1, .int v2, .int v3, .int v4, .int v5, .ref h6, .int v6, .ref h7, .ref h8, .ref h9, .int v7, .int v8, .int v9, .int v10, .int v11])), (h1, .inl (cy 0, 64, .inl (g)))] sz) (0)) 0 0 (va_A [(h0, .inr (11, [.ref h1, .ref h2, .ref h3, .ref h4, .ref h5, .int v1, .int v2, .int v3, .int v4, .int v5, .ref h6, .int v6, .ref h7, .ref h8, .ref h9, .int v7, .int v8, .int v9, .int v10, .int v11])), (h1, .inl (cy 0, 64, .inl (g)))] sz) := by
  refine z_of (Qc := fun A => zQi D ((q_X9_record2_1 cy h0 h1 h2 h3 h4 h5 h6 h7 h8 h9 v2 v3 v4 v5 v6 v7 v8 v9 v10 v11 g) (n_X9_record2_1 g x)) A (0)) (by decide +kernel) (Nat.le_of_ble_eq_true rfl) rfl ?_
  intro pG eN sT mI below meth cO A ls C hRT hnm hA hP hD hS hE0 hl
  have hX := C.x
  have hB := C.b
  refine lv_aload_n hX hB dX9_record_0 rfl (lv_at hl 0 rfl) ?_
  refine lv_iload_n hX hB dX9_record_1 rfl (lv_at hl 1 rfl) ?_
  refine lv_iconst (v := 0) hX hB dX9_record_2 (by decide) ?_
  refine lv_aload_n hX hB dX9_record_3 rfl (lv_at hl 0 rfl) ?_
  refine fg_X9_7 C hP 0 rfl rfl dX9_record_4 ?_
  refine lv_bipush (v := 13) hX hB dX9_record_7 (by decide) ?_
  refine z_iald C hP 1 rfl (k := 13) (zlit 13) (by decide) (by decide) (v := g 13) rfl dX9_record_9 ?_
  refine lv_iconst (v := 1) hX hB dX9_record_10 (by decide) ?_
  refine z_isub (v := (g 13) - 1) C dX9_record_11 rfl ?_
  refine z_callSi (isC := []) (isR := [0, 1]) (isO := [0, 1]) (n_X9_in x 0 ((g 13) - 1)) (q_X9_in ) (fun o_1 => [(h0, .inr (11, [.ref h1, .ref h2, .ref h3, .ref h4, .ref h5, .int v1, .int v2, .int v3, .int v4, .int v5, .ref h6, .int v6, .ref h7, .ref h8, .ref h9, .int v7, .int v8, .int v9, .int v10, .int v11])), (h1, .inl (cy 0, 64, .inl (g)))]) (fun o_1 => o_1) (c_X9_in l hE D cy  x 0 ((g 13) - 1) ) hE C zs_X9_127 ⟨Nat.le_of_ble_eq_true rfl, Nat.le_of_ble_eq_true rfl⟩ hP hD hS hA hE0 ⟨rfl, rfl, rfl, by decide, rfl, rfl, rfl⟩ rfl hl.1 (Nat.le_of_ble_eq_true rfl) rfl dX9_record_12 ⟨Nat.le_of_ble_eq_true rfl, Nat.le_of_ble_eq_true rfl⟩ (fun o_1 H locs eo_1 hP hD hS => ?_)
  refine lv_if_eq (tgt := 22) hX hB dX9_record_15 (by decide) (fun _ => ?_) (fun c => absurd (by rw [eo_1]; exact hin) c)
  refine lv_iconst (v := 1) hX hB dX9_record_22 (by decide) ?_
  refine fp_X9_25 C hP hD hS 0 rfl rfl rfl (Nat.le_of_ble_eq_true rfl) (w' := [(h0, .inr (11, [.ref h1, .ref h2, .ref h3, .ref h4, .ref h5, .int 1, .int v2, .int v3, .int v4, .int v5, .ref h6, .int v6, .ref h7, .ref h8, .ref h9, .int v7, .int v8, .int v9, .int v10, .int v11])), (h1, .inl (cy 0, 64, .inl (g)))]) rfl dX9_record_23 (fun H locs hP hD hS => ?_)
  refine lv_aload_n hX hB dX9_record_26 rfl (lv_at hl 0 rfl) ?_
  refine fg_X9_25 C hP 0 rfl rfl dX9_record_27 ?_
  refine lv_if_le (tgt := 37) hX hB dX9_record_30 (by decide) (fun c => absurd c (by decide)) (fun _ => ?_)
  refine lv_iconst (v := 0) hX hB dX9_record_33 (by decide) ?_
  refine lv_goto (tgt := 50) hX hB dX9_record_34 (by decide) ?_
  exact z_iret' 1 (w' := q_X9_record2_1 cy h0 h1 h2 h3 h4 h5 h6 h7 h8 h9 v2 v3 v4 v5 v6 v7 v8 v9 v10 v11 g) (r0 := (fun (o : Int32) => 0)) (by simp only [n_X9_record2_1, ← eo_1]) C hRT hP hD hS (Nat.le_of_ble_eq_true rfl) (Nat.le_of_ble_eq_true rfl) rfl rfl dX9_record_50

def n_X9_recordGame_ok (g : Nat → Int32) (i : Nat) : Int32 × Int32 :=
  let o_1 := n_X9_record2_ok g i
  (o_1.1, o_1.2)
def q_X9_recordGame_ok (cy : Nat → ClassId) (h0 : Nat) (h1 : Nat) (h2 : Nat) (h3 : Nat) (h4 : Nat) (h5 : Nat) (h6 : Nat) (h7 : Nat) (h8 : Nat) (h9 : Nat) (v2 : Int32) (v3 : Int32) (v4 : Int32) (v5 : Int32) (v6 : Int32) (v7 : Int32) (v8 : Int32) (v9 : Int32) (v10 : Int32) (v11 : Int32) (g : Nat → Int32) (o : Int32 × Int32) : va_W := [(h0, .inr (11, [.ref h1, .ref h2, .ref h3, .ref h4, .ref h5, .int o.2, .int v2, .int v3, .int v4, .int v5, .ref h6, .int v6, .ref h7, .ref h8, .ref h9, .int v7, .int v8, .int v9, .int v10, .int v11])), (h1, .inl (cy 0, 64, .inl (g)))]
set_option maxHeartbeats 4000000 in
set_option maxRecDepth 100000 in
theorem c_X9_recordGame_ok (l : Launch) {E : zEn} (hE : zEok E) (D : zG) (cy : Nat → ClassId) (h0 h1 h2 h3 h4 h5 h6 h7 h8 h9 : Nat) (v1 : Int32) (v2 : Int32) (v3 : Int32) (v4 : Int32) (v5 : Int32) (v6 : Int32) (v7 : Int32) (v8 : Int32) (v9 : Int32) (v10 : Int32) (v11 : Int32) (g : Nat → Int32) (x : Int32) (i : Nat) (hx : zi x i) (hi : i < zn (g 13)) (hq : zle (g 13) 5) (sz : Nat) : Met l yX9_recordGame (zws yX9_recordGame cX9_recordGame 2 (some .int)) { frames := 2, cells := 0, slots := 0, locals := 44 } (zPre E D cy [.ref h0, .int x] [(h0, .inr (11, [.ref h1, .ref h2, .ref h3, .ref h4, .ref h5, .int v1, .int v2, .int v3, .int v4, .int v5, .ref h6, .int v6, .ref h7, .ref h8, .ref h9, .int v7, .int v8, .int v9, .int v10, .int v11])), (h1, .inl (cy 0, 64, .inl (g)))] sz) (zQi D ((q_X9_recordGame_ok cy h0 h1 h2 h3 h4 h5 h6 h7 h8 h9 v2 v3 v4 v5 v6 v7 v8 v9 v10 v11 g) (n_X9_recordGame_ok g i)) (va_A [(h0, .inr (11, [.ref h1, .ref h2, .ref h3, .ref h4, .ref h5, .int v1, .int v2, .int v3, .int v4, .int v5, .ref h6, .int v6, .ref h7, .ref h8, .ref h9, .int v7, .int v8, .int v9, .int v10, .int v11])), (h1, .inl (cy 0, 64, .inl (g)))] sz) ((n_X9_recordGame_ok g i).1)) 0 0 (va_A [(h0, .inr (11, [.ref h1, .ref h2, .ref h3, .ref h4, .ref h5, .int v1, .int v2, .int v3, .int v4, .int v5, .ref h6, .int v6, .ref h7, .ref h8, .ref h9, .int v7, .int v8, .int v9, .int v10, .int v11])), (h1, .inl (cy 0, 64, .inl (g)))] sz) := by
  refine z_of (Qc := fun A => zQi D ((q_X9_recordGame_ok cy h0 h1 h2 h3 h4 h5 h6 h7 h8 h9 v2 v3 v4 v5 v6 v7 v8 v9 v10 v11 g) (n_X9_recordGame_ok g i)) A ((n_X9_recordGame_ok g i).1)) (by decide +kernel) (Nat.le_of_ble_eq_true rfl) rfl ?_
  intro pG eN sT mI below meth cO A ls C hRT hnm hA hP hD hS hE0 hl
  have hX := C.x
  have hB := C.b
  have hq_ := hq.2
  refine lv_aload_n hX hB dX9_recordGame_0 rfl (lv_at hl 0 rfl) ?_
  refine lv_iload_n hX hB dX9_recordGame_1 rfl (lv_at hl 1 rfl) ?_
  refine lv_iconst (v := 2) hX hB dX9_recordGame_2 (by decide) ?_
  refine z_callVi (isC := [0, 1]) (isR := []) (isO := [0, 1]) (n_X9_record2_ok g i) (q_X9_record2_ok cy h0 h1 h2 h3 h4 h5 h6 h7 h8 h9 v2 v3 v4 v5 v6 v7 v8 v9 v10 v11 g) (fun o_1 => [(h0, .inr (11, [.ref h1, .ref h2, .ref h3, .ref h4, .ref h5, .int o_1.2, .int v2, .int v3, .int v4, .int v5, .ref h6, .int v6, .ref h7, .ref h8, .ref h9, .int v7, .int v8, .int v9, .int v10, .int v11])), (h1, .inl (cy 0, 64, .inl (g)))]) (fun o_1 => o_1.1) (c_X9_record2_ok l hE D cy h0 h1 h2 h3 h4 h5 h6 h7 h8 h9 v1 v2 v3 v4 v5 v6 v7 v8 v9 v10 v11 g x i hx (by omega) (zle_of (zi_tr rfl hq.1) (by omega) (by decide))) hE C zs_X9_187 ⟨Nat.le_of_ble_eq_true rfl, Nat.le_of_ble_eq_true rfl⟩ hP hD hS hA hE0 ⟨rfl, rfl, rfl, by decide, rfl, rfl, rfl⟩ 0 rfl rfl rfl rfl hl.1 (Nat.le_of_ble_eq_true rfl) rfl dX9_recordGame_3 ⟨Nat.le_of_ble_eq_true rfl, Nat.le_of_ble_eq_true rfl⟩ (fun o_1 H locs eo_1 hP hD hS => ?_)
  exact z_iret' (o_1.1, o_1.2) (w' := q_X9_recordGame_ok cy h0 h1 h2 h3 h4 h5 h6 h7 h8 h9 v2 v3 v4 v5 v6 v7 v8 v9 v10 v11 g) (r0 := (fun (o : Int32 × Int32) => o.1)) (by simp only [n_X9_recordGame_ok, ← eo_1]) C hRT hP hD hS (Nat.le_of_ble_eq_true rfl) (Nat.le_of_ble_eq_true rfl) rfl rfl dX9_recordGame_6

def n_X9_recordGame_1 (g : Nat → Int32) (x : Int32) : Int32 :=
  let o_1 := n_X9_record2_1 g x
  o_1
def q_X9_recordGame_1 (cy : Nat → ClassId) (h0 : Nat) (h1 : Nat) (h2 : Nat) (h3 : Nat) (h4 : Nat) (h5 : Nat) (h6 : Nat) (h7 : Nat) (h8 : Nat) (h9 : Nat) (v2 : Int32) (v3 : Int32) (v4 : Int32) (v5 : Int32) (v6 : Int32) (v7 : Int32) (v8 : Int32) (v9 : Int32) (v10 : Int32) (v11 : Int32) (g : Nat → Int32) (o : Int32) : va_W := [(h0, .inr (11, [.ref h1, .ref h2, .ref h3, .ref h4, .ref h5, .int o, .int v2, .int v3, .int v4, .int v5, .ref h6, .int v6, .ref h7, .ref h8, .ref h9, .int v7, .int v8, .int v9, .int v10, .int v11])), (h1, .inl (cy 0, 64, .inl (g)))]
set_option maxHeartbeats 4000000 in
set_option maxRecDepth 100000 in
theorem c_X9_recordGame_1 (l : Launch) {E : zEn} (hE : zEok E) (D : zG) (cy : Nat → ClassId) (h0 h1 h2 h3 h4 h5 h6 h7 h8 h9 : Nat) (v1 : Int32) (v2 : Int32) (v3 : Int32) (v4 : Int32) (v5 : Int32) (v6 : Int32) (v7 : Int32) (v8 : Int32) (v9 : Int32) (v10 : Int32) (v11 : Int32) (g : Nat → Int32) (x : Int32) (hin : n_X9_in x 0 ((g 13) - 1) = 0) (sz : Nat) : Met l yX9_recordGame (zws yX9_recordGame cX9_recordGame 2 (some .int)) { frames := 2, cells := 0, slots := 0, locals := 44 } (zPre E D cy [.ref h0, .int x] [(h0, .inr (11, [.ref h1, .ref h2, .ref h3, .ref h4, .ref h5, .int v1, .int v2, .int v3, .int v4, .int v5, .ref h6, .int v6, .ref h7, .ref h8, .ref h9, .int v7, .int v8, .int v9, .int v10, .int v11])), (h1, .inl (cy 0, 64, .inl (g)))] sz) (zQi D ((q_X9_recordGame_1 cy h0 h1 h2 h3 h4 h5 h6 h7 h8 h9 v2 v3 v4 v5 v6 v7 v8 v9 v10 v11 g) (n_X9_recordGame_1 g x)) (va_A [(h0, .inr (11, [.ref h1, .ref h2, .ref h3, .ref h4, .ref h5, .int v1, .int v2, .int v3, .int v4, .int v5, .ref h6, .int v6, .ref h7, .ref h8, .ref h9, .int v7, .int v8, .int v9, .int v10, .int v11])), (h1, .inl (cy 0, 64, .inl (g)))] sz) (0)) 0 0 (va_A [(h0, .inr (11, [.ref h1, .ref h2, .ref h3, .ref h4, .ref h5, .int v1, .int v2, .int v3, .int v4, .int v5, .ref h6, .int v6, .ref h7, .ref h8, .ref h9, .int v7, .int v8, .int v9, .int v10, .int v11])), (h1, .inl (cy 0, 64, .inl (g)))] sz) := by
  refine z_of (Qc := fun A => zQi D ((q_X9_recordGame_1 cy h0 h1 h2 h3 h4 h5 h6 h7 h8 h9 v2 v3 v4 v5 v6 v7 v8 v9 v10 v11 g) (n_X9_recordGame_1 g x)) A (0)) (by decide +kernel) (Nat.le_of_ble_eq_true rfl) rfl ?_
  intro pG eN sT mI below meth cO A ls C hRT hnm hA hP hD hS hE0 hl
  have hX := C.x
  have hB := C.b
  refine lv_aload_n hX hB dX9_recordGame_0 rfl (lv_at hl 0 rfl) ?_
  refine lv_iload_n hX hB dX9_recordGame_1 rfl (lv_at hl 1 rfl) ?_
  refine lv_iconst (v := 2) hX hB dX9_recordGame_2 (by decide) ?_
  refine z_callVi (isC := [0, 1]) (isR := []) (isO := [0, 1]) (n_X9_record2_1 g x) (q_X9_record2_1 cy h0 h1 h2 h3 h4 h5 h6 h7 h8 h9 v2 v3 v4 v5 v6 v7 v8 v9 v10 v11 g) (fun o_1 => [(h0, .inr (11, [.ref h1, .ref h2, .ref h3, .ref h4, .ref h5, .int o_1, .int v2, .int v3, .int v4, .int v5, .ref h6, .int v6, .ref h7, .ref h8, .ref h9, .int v7, .int v8, .int v9, .int v10, .int v11])), (h1, .inl (cy 0, 64, .inl (g)))]) (fun o_1 => 0) (c_X9_record2_1 l hE D cy h0 h1 h2 h3 h4 h5 h6 h7 h8 h9 v1 v2 v3 v4 v5 v6 v7 v8 v9 v10 v11 g x hin) hE C zs_X9_187 ⟨Nat.le_of_ble_eq_true rfl, Nat.le_of_ble_eq_true rfl⟩ hP hD hS hA hE0 ⟨rfl, rfl, rfl, by decide, rfl, rfl, rfl⟩ 0 rfl rfl rfl rfl hl.1 (Nat.le_of_ble_eq_true rfl) rfl dX9_recordGame_3 ⟨Nat.le_of_ble_eq_true rfl, Nat.le_of_ble_eq_true rfl⟩ (fun o_1 H locs eo_1 hP hD hS => ?_)
  exact z_iret' o_1 (w' := q_X9_recordGame_1 cy h0 h1 h2 h3 h4 h5 h6 h7 h8 h9 v2 v3 v4 v5 v6 v7 v8 v9 v10 v11 g) (r0 := (fun (o : Int32) => 0)) (by simp only [n_X9_recordGame_1, ← eo_1]) C hRT hP hD hS (Nat.le_of_ble_eq_true rfl) (Nat.le_of_ble_eq_true rfl) rfl rfl dX9_recordGame_6

def n_X9_pointsOf (g : Nat → Int32) (x : Int32) : Int32 × Int32 :=
  if x = 98 then
    (g 43, 0)
  else
    if x = 108 then
      (g 42, 0)
    else
      if x = 116 then
        (g 44, 0)
      else
        if x = 117 then
          (g 45, 0)
        else
          let o_5 := n_X9_fail 1
          (0, o_5)
def q_X9_pointsOf (cy : Nat → ClassId) (h0 : Nat) (h1 : Nat) (h2 : Nat) (h3 : Nat) (h4 : Nat) (h5 : Nat) (h6 : Nat) (h7 : Nat) (h8 : Nat) (h9 : Nat) (v2 : Int32) (v3 : Int32) (v4 : Int32) (v5 : Int32) (v6 : Int32) (v7 : Int32) (v8 : Int32) (v9 : Int32) (v10 : Int32) (v11 : Int32) (g : Nat → Int32) (o : Int32 × Int32) : va_W := [(h0, .inr (11, [.ref h1, .ref h2, .ref h3, .ref h4, .ref h5, .int o.2, .int v2, .int v3, .int v4, .int v5, .ref h6, .int v6, .ref h7, .ref h8, .ref h9, .int v7, .int v8, .int v9, .int v10, .int v11])), (h1, .inl (cy 0, 64, .inl (g)))]
set_option maxHeartbeats 4000000 in
set_option maxRecDepth 100000 in
theorem c_X9_pointsOf (l : Launch) {E : zEn} (hE : zEok E) (D : zG) (cy : Nat → ClassId) (h0 h1 h2 h3 h4 h5 h6 h7 h8 h9 : Nat) (v1 : Int32) (v2 : Int32) (v3 : Int32) (v4 : Int32) (v5 : Int32) (v6 : Int32) (v7 : Int32) (v8 : Int32) (v9 : Int32) (v10 : Int32) (v11 : Int32) (g : Nat → Int32) (x : Int32)  (sz : Nat) : Met l yX9_pointsOf (zws yX9_pointsOf cX9_pointsOf 2 (some .int)) { frames := 1, cells := 0, slots := 0, locals := 21 } (zPre E D cy [.ref h0, .int x] [(h0, .inr (11, [.ref h1, .ref h2, .ref h3, .ref h4, .ref h5, .int v1, .int v2, .int v3, .int v4, .int v5, .ref h6, .int v6, .ref h7, .ref h8, .ref h9, .int v7, .int v8, .int v9, .int v10, .int v11])), (h1, .inl (cy 0, 64, .inl (g)))] sz) (zQi D ((q_X9_pointsOf cy h0 h1 h2 h3 h4 h5 h6 h7 h8 h9 v2 v3 v4 v5 v6 v7 v8 v9 v10 v11 g) (n_X9_pointsOf g x)) (va_A [(h0, .inr (11, [.ref h1, .ref h2, .ref h3, .ref h4, .ref h5, .int v1, .int v2, .int v3, .int v4, .int v5, .ref h6, .int v6, .ref h7, .ref h8, .ref h9, .int v7, .int v8, .int v9, .int v10, .int v11])), (h1, .inl (cy 0, 64, .inl (g)))] sz) ((n_X9_pointsOf g x).1)) 0 0 (va_A [(h0, .inr (11, [.ref h1, .ref h2, .ref h3, .ref h4, .ref h5, .int v1, .int v2, .int v3, .int v4, .int v5, .ref h6, .int v6, .ref h7, .ref h8, .ref h9, .int v7, .int v8, .int v9, .int v10, .int v11])), (h1, .inl (cy 0, 64, .inl (g)))] sz) := by
  refine z_of (Qc := fun A => zQi D ((q_X9_pointsOf cy h0 h1 h2 h3 h4 h5 h6 h7 h8 h9 v2 v3 v4 v5 v6 v7 v8 v9 v10 v11 g) (n_X9_pointsOf g x)) A ((n_X9_pointsOf g x).1)) (by decide +kernel) (Nat.le_of_ble_eq_true rfl) rfl ?_
  intro pG eN sT mI below meth cO A ls C hRT hnm hA hP hD hS hE0 hl
  have hX := C.x
  have hB := C.b
  refine lv_aload_n hX hB dX9_pointsOf_0 rfl (lv_at hl 0 rfl) ?_
  refine lv_iconst (v := 0) hX hB dX9_pointsOf_1 (by decide) ?_
  refine fp_X9_25 C hP hD hS 0 rfl rfl rfl (Nat.le_of_ble_eq_true rfl) (w' := [(h0, .inr (11, [.ref h1, .ref h2, .ref h3, .ref h4, .ref h5, .int 0, .int v2, .int v3, .int v4, .int v5, .ref h6, .int v6, .ref h7, .ref h8, .ref h9, .int v7, .int v8, .int v9, .int v10, .int v11])), (h1, .inl (cy 0, 64, .inl (g)))]) rfl dX9_pointsOf_2 (fun H locs hP hD hS => ?_)
  refine lv_iload_n hX hB dX9_pointsOf_5 rfl (lv_at hl 1 rfl) ?_
  refine zby (x = 98) (fun c_1 => ?_) (fun c_1 => ?_)
  · refine lv_lookup (off := 50) (tgt := 56) hX hB dX9_pointsOf_6 (by decide) (by rw [c_1]; decide) (by decide) ?_
    refine lv_aload_n hX hB dX9_pointsOf_56 rfl (lv_at hl 0 rfl) ?_
    refine fg_X9_7 C hP 0 rfl rfl dX9_pointsOf_57 ?_
    refine lv_bipush (v := 43) hX hB dX9_pointsOf_60 (by decide) ?_
    refine z_iald C hP 1 rfl (k := 43) (zlit 43) (by decide) (by decide) (v := g 43) rfl dX9_pointsOf_62 ?_
    exact z_iret' (g 43, 0) (w' := q_X9_pointsOf cy h0 h1 h2 h3 h4 h5 h6 h7 h8 h9 v2 v3 v4 v5 v6 v7 v8 v9 v10 v11 g) (r0 := (fun (o : Int32 × Int32) => o.1)) (by simp only [n_X9_pointsOf, if_pos c_1]) C hRT hP hD hS (Nat.le_of_ble_eq_true rfl) (Nat.le_of_ble_eq_true rfl) rfl rfl dX9_pointsOf_63
  · refine zby (x = 108) (fun c_2 => ?_) (fun c_2 => ?_)
    · refine lv_lookup (off := 42) (tgt := 48) hX hB dX9_pointsOf_6 (by decide) (by rw [c_2]; decide) (by decide) ?_
      refine lv_aload_n hX hB dX9_pointsOf_48 rfl (lv_at hl 0 rfl) ?_
      refine fg_X9_7 C hP 0 rfl rfl dX9_pointsOf_49 ?_
      refine lv_bipush (v := 42) hX hB dX9_pointsOf_52 (by decide) ?_
      refine z_iald C hP 1 rfl (k := 42) (zlit 42) (by decide) (by decide) (v := g 42) rfl dX9_pointsOf_54 ?_
      exact z_iret' (g 42, 0) (w' := q_X9_pointsOf cy h0 h1 h2 h3 h4 h5 h6 h7 h8 h9 v2 v3 v4 v5 v6 v7 v8 v9 v10 v11 g) (r0 := (fun (o : Int32 × Int32) => o.1)) (by simp only [n_X9_pointsOf, if_neg c_1, if_pos c_2]) C hRT hP hD hS (Nat.le_of_ble_eq_true rfl) (Nat.le_of_ble_eq_true rfl) rfl rfl dX9_pointsOf_55
    · refine zby (x = 116) (fun c_3 => ?_) (fun c_3 => ?_)
      · refine lv_lookup (off := 58) (tgt := 64) hX hB dX9_pointsOf_6 (by decide) (by rw [c_3]; decide) (by decide) ?_
        refine lv_aload_n hX hB dX9_pointsOf_64 rfl (lv_at hl 0 rfl) ?_
        refine fg_X9_7 C hP 0 rfl rfl dX9_pointsOf_65 ?_
        refine lv_bipush (v := 44) hX hB dX9_pointsOf_68 (by decide) ?_
        refine z_iald C hP 1 rfl (k := 44) (zlit 44) (by decide) (by decide) (v := g 44) rfl dX9_pointsOf_70 ?_
        exact z_iret' (g 44, 0) (w' := q_X9_pointsOf cy h0 h1 h2 h3 h4 h5 h6 h7 h8 h9 v2 v3 v4 v5 v6 v7 v8 v9 v10 v11 g) (r0 := (fun (o : Int32 × Int32) => o.1)) (by simp only [n_X9_pointsOf, if_neg c_1, if_neg c_2, if_pos c_3]) C hRT hP hD hS (Nat.le_of_ble_eq_true rfl) (Nat.le_of_ble_eq_true rfl) rfl rfl dX9_pointsOf_71
      · refine zby (x = 117) (fun c_4 => ?_) (fun c_4 => ?_)
        · refine lv_lookup (off := 66) (tgt := 72) hX hB dX9_pointsOf_6 (by decide) (by rw [c_4]; decide) (by decide) ?_
          refine lv_aload_n hX hB dX9_pointsOf_72 rfl (lv_at hl 0 rfl) ?_
          refine fg_X9_7 C hP 0 rfl rfl dX9_pointsOf_73 ?_
          refine lv_bipush (v := 45) hX hB dX9_pointsOf_76 (by decide) ?_
          refine z_iald C hP 1 rfl (k := 45) (zlit 45) (by decide) (by decide) (v := g 45) rfl dX9_pointsOf_78 ?_
          exact z_iret' (g 45, 0) (w' := q_X9_pointsOf cy h0 h1 h2 h3 h4 h5 h6 h7 h8 h9 v2 v3 v4 v5 v6 v7 v8 v9 v10 v11 g) (r0 := (fun (o : Int32 × Int32) => o.1)) (by simp only [n_X9_pointsOf, if_neg c_1, if_neg c_2, if_neg c_3, if_pos c_4]) C hRT hP hD hS (Nat.le_of_ble_eq_true rfl) (Nat.le_of_ble_eq_true rfl) rfl rfl dX9_pointsOf_79
        · refine lv_lookup (off := 74) (tgt := 80) hX hB dX9_pointsOf_6 (by decide) ((lv_osw c_1 (by decide)).trans ((lv_osw c_2 (by decide)).trans ((lv_osw c_3 (by decide)).trans ((lv_osw c_4 (by decide)).trans rfl)))) (by decide) ?_
          refine lv_aload_n hX hB dX9_pointsOf_80 rfl (lv_at hl 0 rfl) ?_
          refine lv_iconst (v := 1) hX hB dX9_pointsOf_81 (by decide) ?_
          refine z_callVi (isC := [0]) (isR := [1]) (isO := [1, 0]) (n_X9_fail 1) (q_X9_fail h0 h1 h2 h3 h4 h5 h6 h7 h8 h9 v2 v3 v4 v5 v6 v7 v8 v9 v10 v11) (fun o_5 => [(h0, .inr (11, [.ref h1, .ref h2, .ref h3, .ref h4, .ref h5, .int o_5, .int v2, .int v3, .int v4, .int v5, .ref h6, .int v6, .ref h7, .ref h8, .ref h9, .int v7, .int v8, .int v9, .int v10, .int v11])), (h1, .inl (cy 0, 64, .inl (g)))]) (fun o_5 => 0) (c_X9_fail l hE D cy h0 h1 h2 h3 h4 h5 h6 h7 h8 h9 0 v2 v3 v4 v5 v6 v7 v8 v9 v10 v11 1 ) hE C zs_X9_87 ⟨Nat.le_of_ble_eq_true rfl, Nat.le_of_ble_eq_true rfl⟩ hP hD hS hA hE0 ⟨rfl, rfl, rfl, by decide, rfl, rfl, rfl⟩ 0 rfl rfl rfl rfl hl.1 (Nat.le_of_ble_eq_true rfl) rfl dX9_pointsOf_82 ⟨Nat.le_of_ble_eq_true rfl, Nat.le_of_ble_eq_true rfl⟩ (fun o_5 H locs eo_5 hP hD hS => ?_)
          exact z_iret' (0, o_5) (w' := q_X9_pointsOf cy h0 h1 h2 h3 h4 h5 h6 h7 h8 h9 v2 v3 v4 v5 v6 v7 v8 v9 v10 v11 g) (r0 := (fun (o : Int32 × Int32) => o.1)) (by simp only [n_X9_pointsOf, if_neg c_1, if_neg c_2, if_neg c_3, if_neg c_4, ← eo_5]) C hRT hP hD hS (Nat.le_of_ble_eq_true rfl) (Nat.le_of_ble_eq_true rfl) rfl rfl dX9_pointsOf_85

def n_X9_present (x : Int32) : Int32 × Int32 :=
  if 0 ≤ x then
    (x, 0)
  else
    (0, 1)
def q_X9_present (h0 : Nat) (h1 : Nat) (h2 : Nat) (h3 : Nat) (h4 : Nat) (h5 : Nat) (h6 : Nat) (h7 : Nat) (h8 : Nat) (h9 : Nat) (v2 : Int32) (v3 : Int32) (v4 : Int32) (v5 : Int32) (v6 : Int32) (v7 : Int32) (v8 : Int32) (v9 : Int32) (v10 : Int32) (v11 : Int32) (o : Int32 × Int32) : va_W := [(h0, .inr (11, [.ref h1, .ref h2, .ref h3, .ref h4, .ref h5, .int o.2, .int v2, .int v3, .int v4, .int v5, .ref h6, .int v6, .ref h7, .ref h8, .ref h9, .int v7, .int v8, .int v9, .int v10, .int v11]))]
set_option maxHeartbeats 4000000 in
set_option maxRecDepth 100000 in
theorem c_X9_present (l : Launch) {E : zEn} (hE : zEok E) (D : zG) (cy : Nat → ClassId) (h0 h1 h2 h3 h4 h5 h6 h7 h8 h9 : Nat) (v1 : Int32) (v2 : Int32) (v3 : Int32) (v4 : Int32) (v5 : Int32) (v6 : Int32) (v7 : Int32) (v8 : Int32) (v9 : Int32) (v10 : Int32) (v11 : Int32) (x : Int32)  (sz : Nat) : Met l yX9_present (zws yX9_present cX9_present 2 (some .int)) { frames := 0, cells := 0, slots := 0, locals := 0 } (zPre E D cy [.ref h0, .int x] [(h0, .inr (11, [.ref h1, .ref h2, .ref h3, .ref h4, .ref h5, .int v1, .int v2, .int v3, .int v4, .int v5, .ref h6, .int v6, .ref h7, .ref h8, .ref h9, .int v7, .int v8, .int v9, .int v10, .int v11]))] sz) (zQi D ((q_X9_present h0 h1 h2 h3 h4 h5 h6 h7 h8 h9 v2 v3 v4 v5 v6 v7 v8 v9 v10 v11) (n_X9_present x)) (va_A [(h0, .inr (11, [.ref h1, .ref h2, .ref h3, .ref h4, .ref h5, .int v1, .int v2, .int v3, .int v4, .int v5, .ref h6, .int v6, .ref h7, .ref h8, .ref h9, .int v7, .int v8, .int v9, .int v10, .int v11]))] sz) ((n_X9_present x).1)) 0 0 (va_A [(h0, .inr (11, [.ref h1, .ref h2, .ref h3, .ref h4, .ref h5, .int v1, .int v2, .int v3, .int v4, .int v5, .ref h6, .int v6, .ref h7, .ref h8, .ref h9, .int v7, .int v8, .int v9, .int v10, .int v11]))] sz) := by
  refine z_of (Qc := fun A => zQi D ((q_X9_present h0 h1 h2 h3 h4 h5 h6 h7 h8 h9 v2 v3 v4 v5 v6 v7 v8 v9 v10 v11) (n_X9_present x)) A ((n_X9_present x).1)) (by decide +kernel) (Nat.le_of_ble_eq_true rfl) rfl ?_
  intro pG eN sT mI below meth cO A ls C hRT hnm hA hP hD hS hE0 hl
  have hX := C.x
  have hB := C.b
  refine lv_aload_n hX hB dX9_present_0 rfl (lv_at hl 0 rfl) ?_
  refine lv_iload_n hX hB dX9_present_1 rfl (lv_at hl 1 rfl) ?_
  refine lv_if_ge (tgt := 9) hX hB dX9_present_2 (by decide) (fun c_1 => ?_) (fun c_1 => ?_)
  · refine lv_iconst (v := 0) hX hB dX9_present_9 (by decide) ?_
    refine fp_X9_25 C hP hD hS 0 rfl rfl rfl (Nat.le_of_ble_eq_true rfl) (w' := [(h0, .inr (11, [.ref h1, .ref h2, .ref h3, .ref h4, .ref h5, .int 0, .int v2, .int v3, .int v4, .int v5, .ref h6, .int v6, .ref h7, .ref h8, .ref h9, .int v7, .int v8, .int v9, .int v10, .int v11]))]) rfl dX9_present_10 (fun H locs hP hD hS => ?_)
    refine lv_aload_n hX hB dX9_present_13 rfl (lv_at hl 0 rfl) ?_
    refine fg_X9_25 C hP 0 rfl rfl dX9_present_14 ?_
    refine lv_if_le (tgt := 24) hX hB dX9_present_17 (by decide) (fun _ => ?_) (fun c => absurd (by decide) c)
    refine lv_iload_n hX hB dX9_present_24 rfl (lv_at hl 1 rfl) ?_
    exact z_iret' (x, 0) (w' := q_X9_present h0 h1 h2 h3 h4 h5 h6 h7 h8 h9 v2 v3 v4 v5 v6 v7 v8 v9 v10 v11) (r0 := (fun (o : Int32 × Int32) => o.1)) (by simp only [n_X9_present, if_pos c_1]) C hRT hP hD hS (Nat.le_of_ble_eq_true rfl) (Nat.le_of_ble_eq_true rfl) rfl rfl dX9_present_25
  · refine lv_iconst (v := 1) hX hB dX9_present_5 (by decide) ?_
    refine lv_goto (tgt := 10) hX hB dX9_present_6 (by decide) ?_
    refine fp_X9_25 C hP hD hS 0 rfl rfl rfl (Nat.le_of_ble_eq_true rfl) (w' := [(h0, .inr (11, [.ref h1, .ref h2, .ref h3, .ref h4, .ref h5, .int 1, .int v2, .int v3, .int v4, .int v5, .ref h6, .int v6, .ref h7, .ref h8, .ref h9, .int v7, .int v8, .int v9, .int v10, .int v11]))]) rfl dX9_present_10 (fun H locs hP hD hS => ?_)
    refine lv_aload_n hX hB dX9_present_13 rfl (lv_at hl 0 rfl) ?_
    refine fg_X9_25 C hP 0 rfl rfl dX9_present_14 ?_
    refine lv_if_le (tgt := 24) hX hB dX9_present_17 (by decide) (fun c => absurd c (by decide)) (fun _ => ?_)
    refine lv_iconst (v := 0) hX hB dX9_present_20 (by decide) ?_
    refine lv_goto (tgt := 25) hX hB dX9_present_21 (by decide) ?_
    exact z_iret' (0, 1) (w' := q_X9_present h0 h1 h2 h3 h4 h5 h6 h7 h8 h9 v2 v3 v4 v5 v6 v7 v8 v9 v10 v11) (r0 := (fun (o : Int32 × Int32) => o.1)) (by simp only [n_X9_present, if_neg c_1]) C hRT hP hD hS (Nat.le_of_ble_eq_true rfl) (Nat.le_of_ble_eq_true rfl) rfl rfl dX9_present_25

def n_X9_errorPosition (v3 : Int32) : Int32 × Int32 :=
  let o_1 := n_X9_present v3
  (o_1.1, o_1.2)
def q_X9_errorPosition (h0 : Nat) (h1 : Nat) (h2 : Nat) (h3 : Nat) (h4 : Nat) (h5 : Nat) (h6 : Nat) (h7 : Nat) (h8 : Nat) (h9 : Nat) (v2 : Int32) (v3 : Int32) (v4 : Int32) (v5 : Int32) (v6 : Int32) (v7 : Int32) (v8 : Int32) (v9 : Int32) (v10 : Int32) (v11 : Int32) (o : Int32 × Int32) : va_W := [(h0, .inr (11, [.ref h1, .ref h2, .ref h3, .ref h4, .ref h5, .int o.2, .int v2, .int v3, .int v4, .int v5, .ref h6, .int v6, .ref h7, .ref h8, .ref h9, .int v7, .int v8, .int v9, .int v10, .int v11]))]
set_option maxHeartbeats 4000000 in
set_option maxRecDepth 100000 in
theorem c_X9_errorPosition (l : Launch) {E : zEn} (hE : zEok E) (D : zG) (cy : Nat → ClassId) (h0 h1 h2 h3 h4 h5 h6 h7 h8 h9 : Nat) (v1 : Int32) (v2 : Int32) (v3 : Int32) (v4 : Int32) (v5 : Int32) (v6 : Int32) (v7 : Int32) (v8 : Int32) (v9 : Int32) (v10 : Int32) (v11 : Int32)  (sz : Nat) : Met l yX9_errorPosition (zws yX9_errorPosition cX9_errorPosition 1 (some .int)) { frames := 1, cells := 0, slots := 0, locals := 21 } (zPre E D cy [.ref h0] [(h0, .inr (11, [.ref h1, .ref h2, .ref h3, .ref h4, .ref h5, .int v1, .int v2, .int v3, .int v4, .int v5, .ref h6, .int v6, .ref h7, .ref h8, .ref h9, .int v7, .int v8, .int v9, .int v10, .int v11]))] sz) (zQi D ((q_X9_errorPosition h0 h1 h2 h3 h4 h5 h6 h7 h8 h9 v2 v3 v4 v5 v6 v7 v8 v9 v10 v11) (n_X9_errorPosition v3)) (va_A [(h0, .inr (11, [.ref h1, .ref h2, .ref h3, .ref h4, .ref h5, .int v1, .int v2, .int v3, .int v4, .int v5, .ref h6, .int v6, .ref h7, .ref h8, .ref h9, .int v7, .int v8, .int v9, .int v10, .int v11]))] sz) ((n_X9_errorPosition v3).1)) 0 0 (va_A [(h0, .inr (11, [.ref h1, .ref h2, .ref h3, .ref h4, .ref h5, .int v1, .int v2, .int v3, .int v4, .int v5, .ref h6, .int v6, .ref h7, .ref h8, .ref h9, .int v7, .int v8, .int v9, .int v10, .int v11]))] sz) := by
  refine z_of (Qc := fun A => zQi D ((q_X9_errorPosition h0 h1 h2 h3 h4 h5 h6 h7 h8 h9 v2 v3 v4 v5 v6 v7 v8 v9 v10 v11) (n_X9_errorPosition v3)) A ((n_X9_errorPosition v3).1)) (by decide +kernel) (Nat.le_of_ble_eq_true rfl) rfl ?_
  intro pG eN sT mI below meth cO A ls C hRT hnm hA hP hD hS hE0 hl
  have hX := C.x
  have hB := C.b
  refine lv_aload_n hX hB dX9_errorPosition_0 rfl (lv_at hl 0 rfl) ?_
  refine lv_aload_n hX hB dX9_errorPosition_1 rfl (lv_at hl 0 rfl) ?_
  refine fg_X9_32 C hP 0 rfl rfl dX9_errorPosition_2 ?_
  refine z_callVi (isC := [0]) (isR := []) (isO := [0]) (n_X9_present v3) (q_X9_present h0 h1 h2 h3 h4 h5 h6 h7 h8 h9 v2 v3 v4 v5 v6 v7 v8 v9 v10 v11) (fun o_1 => [(h0, .inr (11, [.ref h1, .ref h2, .ref h3, .ref h4, .ref h5, .int o_1.2, .int v2, .int v3, .int v4, .int v5, .ref h6, .int v6, .ref h7, .ref h8, .ref h9, .int v7, .int v8, .int v9, .int v10, .int v11]))]) (fun o_1 => o_1.1) (c_X9_present l hE D cy h0 h1 h2 h3 h4 h5 h6 h7 h8 h9 v1 v2 v3 v4 v5 v6 v7 v8 v9 v10 v11 v3 ) hE C zs_X9_222 ⟨Nat.le_of_ble_eq_true rfl, Nat.le_of_ble_eq_true rfl⟩ hP hD hS hA hE0 ⟨rfl, rfl, rfl, by decide, rfl, rfl, rfl⟩ 0 rfl rfl rfl rfl hl.1 (Nat.le_of_ble_eq_true rfl) rfl dX9_errorPosition_5 ⟨Nat.le_of_ble_eq_true rfl, Nat.le_of_ble_eq_true rfl⟩ (fun o_1 H locs eo_1 hP hD hS => ?_)
  exact z_iret' (o_1.1, o_1.2) (w' := q_X9_errorPosition h0 h1 h2 h3 h4 h5 h6 h7 h8 h9 v2 v3 v4 v5 v6 v7 v8 v9 v10 v11) (r0 := (fun (o : Int32 × Int32) => o.1)) (by simp only [n_X9_errorPosition, ← eo_1]) C hRT hP hD hS (Nat.le_of_ble_eq_true rfl) (Nat.le_of_ble_eq_true rfl) rfl rfl dX9_errorPosition_8

def n_X9_failedCommand (v4 : Int32) : Int32 × Int32 :=
  let o_1 := n_X9_present v4
  (o_1.1, o_1.2)
def q_X9_failedCommand (h0 : Nat) (h1 : Nat) (h2 : Nat) (h3 : Nat) (h4 : Nat) (h5 : Nat) (h6 : Nat) (h7 : Nat) (h8 : Nat) (h9 : Nat) (v2 : Int32) (v3 : Int32) (v4 : Int32) (v5 : Int32) (v6 : Int32) (v7 : Int32) (v8 : Int32) (v9 : Int32) (v10 : Int32) (v11 : Int32) (o : Int32 × Int32) : va_W := [(h0, .inr (11, [.ref h1, .ref h2, .ref h3, .ref h4, .ref h5, .int o.2, .int v2, .int v3, .int v4, .int v5, .ref h6, .int v6, .ref h7, .ref h8, .ref h9, .int v7, .int v8, .int v9, .int v10, .int v11]))]
set_option maxHeartbeats 4000000 in
set_option maxRecDepth 100000 in
theorem c_X9_failedCommand (l : Launch) {E : zEn} (hE : zEok E) (D : zG) (cy : Nat → ClassId) (h0 h1 h2 h3 h4 h5 h6 h7 h8 h9 : Nat) (v1 : Int32) (v2 : Int32) (v3 : Int32) (v4 : Int32) (v5 : Int32) (v6 : Int32) (v7 : Int32) (v8 : Int32) (v9 : Int32) (v10 : Int32) (v11 : Int32)  (sz : Nat) : Met l yX9_failedCommand (zws yX9_failedCommand cX9_failedCommand 1 (some .int)) { frames := 1, cells := 0, slots := 0, locals := 21 } (zPre E D cy [.ref h0] [(h0, .inr (11, [.ref h1, .ref h2, .ref h3, .ref h4, .ref h5, .int v1, .int v2, .int v3, .int v4, .int v5, .ref h6, .int v6, .ref h7, .ref h8, .ref h9, .int v7, .int v8, .int v9, .int v10, .int v11]))] sz) (zQi D ((q_X9_failedCommand h0 h1 h2 h3 h4 h5 h6 h7 h8 h9 v2 v3 v4 v5 v6 v7 v8 v9 v10 v11) (n_X9_failedCommand v4)) (va_A [(h0, .inr (11, [.ref h1, .ref h2, .ref h3, .ref h4, .ref h5, .int v1, .int v2, .int v3, .int v4, .int v5, .ref h6, .int v6, .ref h7, .ref h8, .ref h9, .int v7, .int v8, .int v9, .int v10, .int v11]))] sz) ((n_X9_failedCommand v4).1)) 0 0 (va_A [(h0, .inr (11, [.ref h1, .ref h2, .ref h3, .ref h4, .ref h5, .int v1, .int v2, .int v3, .int v4, .int v5, .ref h6, .int v6, .ref h7, .ref h8, .ref h9, .int v7, .int v8, .int v9, .int v10, .int v11]))] sz) := by
  refine z_of (Qc := fun A => zQi D ((q_X9_failedCommand h0 h1 h2 h3 h4 h5 h6 h7 h8 h9 v2 v3 v4 v5 v6 v7 v8 v9 v10 v11) (n_X9_failedCommand v4)) A ((n_X9_failedCommand v4).1)) (by decide +kernel) (Nat.le_of_ble_eq_true rfl) rfl ?_
  intro pG eN sT mI below meth cO A ls C hRT hnm hA hP hD hS hE0 hl
  have hX := C.x
  have hB := C.b
  refine lv_aload_n hX hB dX9_failedCommand_0 rfl (lv_at hl 0 rfl) ?_
  refine lv_aload_n hX hB dX9_failedCommand_1 rfl (lv_at hl 0 rfl) ?_
  refine fg_X9_35 C hP 0 rfl rfl dX9_failedCommand_2 ?_
  refine z_callVi (isC := [0]) (isR := []) (isO := [0]) (n_X9_present v4) (q_X9_present h0 h1 h2 h3 h4 h5 h6 h7 h8 h9 v2 v3 v4 v5 v6 v7 v8 v9 v10 v11) (fun o_1 => [(h0, .inr (11, [.ref h1, .ref h2, .ref h3, .ref h4, .ref h5, .int o_1.2, .int v2, .int v3, .int v4, .int v5, .ref h6, .int v6, .ref h7, .ref h8, .ref h9, .int v7, .int v8, .int v9, .int v10, .int v11]))]) (fun o_1 => o_1.1) (c_X9_present l hE D cy h0 h1 h2 h3 h4 h5 h6 h7 h8 h9 v1 v2 v3 v4 v5 v6 v7 v8 v9 v10 v11 v4 ) hE C zs_X9_222 ⟨Nat.le_of_ble_eq_true rfl, Nat.le_of_ble_eq_true rfl⟩ hP hD hS hA hE0 ⟨rfl, rfl, rfl, by decide, rfl, rfl, rfl⟩ 0 rfl rfl rfl rfl hl.1 (Nat.le_of_ble_eq_true rfl) rfl dX9_failedCommand_5 ⟨Nat.le_of_ble_eq_true rfl, Nat.le_of_ble_eq_true rfl⟩ (fun o_1 H locs eo_1 hP hD hS => ?_)
  exact z_iret' (o_1.1, o_1.2) (w' := q_X9_failedCommand h0 h1 h2 h3 h4 h5 h6 h7 h8 h9 v2 v3 v4 v5 v6 v7 v8 v9 v10 v11) (r0 := (fun (o : Int32 × Int32) => o.1)) (by simp only [n_X9_failedCommand, ← eo_1]) C hRT hP hD hS (Nat.le_of_ble_eq_true rfl) (Nat.le_of_ble_eq_true rfl) rfl rfl dX9_failedCommand_8

def n_X9_undo_ok (v2 : Int32) (g : Nat → Int32) (gh : Nat → Int32) : Int32 × Int32 × Int32 × (Nat → Int32) :=
  let o_1 := n_X9_copy gh g (64 * ((zn v2) - 1)) 0
  (nI ((zn v2) - 1), 0, nI ((zn v2) - 1), o_1)
def q_X9_undo_ok (cy : Nat → ClassId) (h0 : Nat) (h1 : Nat) (h2 : Nat) (h3 : Nat) (h4 : Nat) (h5 : Nat) (h6 : Nat) (h7 : Nat) (h8 : Nat) (h9 : Nat) (v3 : Int32) (v4 : Int32) (v5 : Int32) (v6 : Int32) (v7 : Int32) (v8 : Int32) (v9 : Int32) (v10 : Int32) (v11 : Int32) (gh : Nat → Int32) (o : Int32 × Int32 × Int32 × (Nat → Int32)) : va_W := [(h0, .inr (11, [.ref h1, .ref h2, .ref h3, .ref h4, .ref h5, .int o.2.1, .int o.2.2.1, .int v3, .int v4, .int v5, .ref h6, .int v6, .ref h7, .ref h8, .ref h9, .int v7, .int v8, .int v9, .int v10, .int v11])), (h1, .inl (cy 0, 64, .inl (o.2.2.2))), (h5, .inl (cy 0, 512, .inl (gh)))]
set_option maxHeartbeats 4000000 in
set_option maxRecDepth 100000 in
theorem c_X9_undo_ok (l : Launch) {E : zEn} (hE : zEok E) (D : zG) (cy : Nat → ClassId) (h0 h1 h2 h3 h4 h5 h6 h7 h8 h9 : Nat) (v1 : Int32) (v2 : Int32) (v3 : Int32) (v4 : Int32) (v5 : Int32) (v6 : Int32) (v7 : Int32) (v8 : Int32) (v9 : Int32) (v10 : Int32) (v11 : Int32) (g : Nat → Int32) (gh : Nat → Int32) (hz0 : ¬ v2 = 0) (hz1 : 0 < zn v2) (hd : zle v2 8) (sz : Nat) : Met l yX9_undo (zws yX9_undo cX9_undo 1 (some .int)) { frames := 1, cells := 0, slots := 0, locals := 24 } (zPre E D cy [.ref h0] [(h0, .inr (11, [.ref h1, .ref h2, .ref h3, .ref h4, .ref h5, .int v1, .int v2, .int v3, .int v4, .int v5, .ref h6, .int v6, .ref h7, .ref h8, .ref h9, .int v7, .int v8, .int v9, .int v10, .int v11])), (h1, .inl (cy 0, 64, .inl (g))), (h5, .inl (cy 0, 512, .inl (gh)))] sz) (zQi D ((q_X9_undo_ok cy h0 h1 h2 h3 h4 h5 h6 h7 h8 h9 v3 v4 v5 v6 v7 v8 v9 v10 v11 gh) (n_X9_undo_ok v2 g gh)) (va_A [(h0, .inr (11, [.ref h1, .ref h2, .ref h3, .ref h4, .ref h5, .int v1, .int v2, .int v3, .int v4, .int v5, .ref h6, .int v6, .ref h7, .ref h8, .ref h9, .int v7, .int v8, .int v9, .int v10, .int v11])), (h1, .inl (cy 0, 64, .inl (g))), (h5, .inl (cy 0, 512, .inl (gh)))] sz) ((n_X9_undo_ok v2 g gh).1)) 0 0 (va_A [(h0, .inr (11, [.ref h1, .ref h2, .ref h3, .ref h4, .ref h5, .int v1, .int v2, .int v3, .int v4, .int v5, .ref h6, .int v6, .ref h7, .ref h8, .ref h9, .int v7, .int v8, .int v9, .int v10, .int v11])), (h1, .inl (cy 0, 64, .inl (g))), (h5, .inl (cy 0, 512, .inl (gh)))] sz) := by
  refine z_of (Qc := fun A => zQi D ((q_X9_undo_ok cy h0 h1 h2 h3 h4 h5 h6 h7 h8 h9 v3 v4 v5 v6 v7 v8 v9 v10 v11 gh) (n_X9_undo_ok v2 g gh)) A ((n_X9_undo_ok v2 g gh).1)) (by decide +kernel) (Nat.le_of_ble_eq_true rfl) rfl ?_
  intro pG eN sT mI below meth cO A ls C hRT hnm hA hP hD hS hE0 hl
  have hX := C.x
  have hB := C.b
  have hd_ := hd.2
  refine lv_aload_n hX hB dX9_undo_0 rfl (lv_at hl 0 rfl) ?_
  refine lv_aload_n hX hB dX9_undo_1 rfl (lv_at hl 0 rfl) ?_
  refine fg_X9_29 C hP 0 rfl rfl dX9_undo_2 ?_
  refine lv_if_ne (tgt := 12) hX hB dX9_undo_5 (by decide) (fun _ => ?_) (fun c => absurd c hz0)
  refine lv_iconst (v := 0) hX hB dX9_undo_12 (by decide) ?_
  refine fp_X9_25 C hP hD hS 0 rfl rfl rfl (Nat.le_of_ble_eq_true rfl) (w' := [(h0, .inr (11, [.ref h1, .ref h2, .ref h3, .ref h4, .ref h5, .int 0, .int v2, .int v3, .int v4, .int v5, .ref h6, .int v6, .ref h7, .ref h8, .ref h9, .int v7, .int v8, .int v9, .int v10, .int v11])), (h1, .inl (cy 0, 64, .inl (g))), (h5, .inl (cy 0, 512, .inl (gh)))]) rfl dX9_undo_13 (fun H locs hP hD hS => ?_)
  refine lv_aload_n hX hB dX9_undo_16 rfl (lv_at hl 0 rfl) ?_
  refine fg_X9_25 C hP 0 rfl rfl dX9_undo_17 ?_
  refine lv_if_le (tgt := 25) hX hB dX9_undo_20 (by decide) (fun _ => ?_) (fun c => absurd (by decide) c)
  refine lv_aload_n hX hB dX9_undo_25 rfl (lv_at hl 0 rfl) ?_
  refine lv_dup hX hB dX9_undo_26 rfl ?_
  refine fg_X9_29 C hP 0 rfl rfl dX9_undo_27 ?_
  refine lv_iconst (v := 1) hX hB dX9_undo_30 (by decide) ?_
  refine z_isub (v := nI ((zn v2) - 1)) C dX9_undo_31 (zi_sub hd.1 (zlit 1) (by omega)) ?_
  refine fp_X9_29 C hP hD hS 0 rfl rfl rfl (Nat.le_of_ble_eq_true rfl) (w' := [(h0, .inr (11, [.ref h1, .ref h2, .ref h3, .ref h4, .ref h5, .int 0, .int (nI ((zn v2) - 1)), .int v3, .int v4, .int v5, .ref h6, .int v6, .ref h7, .ref h8, .ref h9, .int v7, .int v8, .int v9, .int v10, .int v11])), (h1, .inl (cy 0, 64, .inl (g))), (h5, .inl (cy 0, 512, .inl (gh)))]) rfl dX9_undo_32 (fun H locs hP hD hS => ?_)
  refine lv_aload_n hX hB dX9_undo_35 rfl (lv_at hl 0 rfl) ?_
  refine fg_X9_22 C hP 0 rfl rfl dX9_undo_36 ?_
  refine lv_bipush (v := 64) hX hB dX9_undo_39 (by decide) ?_
  refine lv_aload_n hX hB dX9_undo_41 rfl (lv_at hl 0 rfl) ?_
  refine fg_X9_29 C hP 0 rfl rfl dX9_undo_42 ?_
  refine z_imul (v := nI (64 * ((zn v2) - 1))) C dX9_undo_45 (zi_mul (zlit 64) (zi_i ((zn v2) - 1))) ?_
  refine lv_aload_n hX hB dX9_undo_46 rfl (lv_at hl 0 rfl) ?_
  refine fg_X9_7 C hP 0 rfl rfl dX9_undo_47 ?_
  refine lv_iconst (v := 0) hX hB dX9_undo_50 (by decide) ?_
  refine z_callSv (isC := [2, 1]) (isR := [0]) (isO := [0, 2, 1]) (n_X9_copy gh g (64 * ((zn v2) - 1)) 0) (q_X9_copy cy h5 h1 512 64 gh) (fun o_1 => [(h0, .inr (11, [.ref h1, .ref h2, .ref h3, .ref h4, .ref h5, .int 0, .int (nI ((zn v2) - 1)), .int v3, .int v4, .int v5, .ref h6, .int v6, .ref h7, .ref h8, .ref h9, .int v7, .int v8, .int v9, .int v10, .int v11])), (h1, .inl (cy 0, 64, .inl (o_1))), (h5, .inl (cy 0, 512, .inl (gh)))]) (c_X9_copy l hE D cy h5 h1 512 64 gh g (nI (64 * ((zn v2) - 1))) (64 * ((zn v2) - 1)) 0 0 (zi_i (64 * ((zn v2) - 1))) (zlit 0) (by omega) (by omega) (by omega) (by omega)) hE C zs_X9_72 ⟨Nat.le_of_ble_eq_true rfl, Nat.le_of_ble_eq_true rfl⟩ hP hD hS hA hE0 ⟨rfl, rfl, rfl, by decide, rfl, rfl, rfl⟩ rfl hl.1 (Nat.le_of_ble_eq_true rfl) rfl dX9_undo_51 ⟨Nat.le_of_ble_eq_true rfl, Nat.le_of_ble_eq_true rfl⟩ (fun o_1 H locs eo_1 hP hD hS => ?_)
  refine lv_aload_n hX hB dX9_undo_54 rfl (lv_at hl 0 rfl) ?_
  refine fg_X9_29 C hP 0 rfl rfl dX9_undo_55 ?_
  exact z_iret' (nI ((zn v2) - 1), 0, nI ((zn v2) - 1), o_1) (w' := q_X9_undo_ok cy h0 h1 h2 h3 h4 h5 h6 h7 h8 h9 v3 v4 v5 v6 v7 v8 v9 v10 v11 gh) (r0 := (fun (o : Int32 × Int32 × Int32 × (Nat → Int32)) => o.1)) (by simp only [n_X9_undo_ok, ← eo_1]) C hRT hP hD hS (Nat.le_of_ble_eq_true rfl) (Nat.le_of_ble_eq_true rfl) rfl rfl dX9_undo_58

def n_X9_undo_1  : Int32 :=
  1
def q_X9_undo_1 (cy : Nat → ClassId) (h0 : Nat) (h1 : Nat) (h2 : Nat) (h3 : Nat) (h4 : Nat) (h5 : Nat) (h6 : Nat) (h7 : Nat) (h8 : Nat) (h9 : Nat) (v2 : Int32) (v3 : Int32) (v4 : Int32) (v5 : Int32) (v6 : Int32) (v7 : Int32) (v8 : Int32) (v9 : Int32) (v10 : Int32) (v11 : Int32) (g : Nat → Int32) (gh : Nat → Int32) (o : Int32) : va_W := [(h0, .inr (11, [.ref h1, .ref h2, .ref h3, .ref h4, .ref h5, .int o, .int v2, .int v3, .int v4, .int v5, .ref h6, .int v6, .ref h7, .ref h8, .ref h9, .int v7, .int v8, .int v9, .int v10, .int v11])), (h1, .inl (cy 0, 64, .inl (g))), (h5, .inl (cy 0, 512, .inl (gh)))]
set_option maxHeartbeats 4000000 in
set_option maxRecDepth 100000 in
theorem c_X9_undo_1 (l : Launch) {E : zEn} (hE : zEok E) (D : zG) (cy : Nat → ClassId) (h0 h1 h2 h3 h4 h5 h6 h7 h8 h9 : Nat) (v1 : Int32) (v2 : Int32) (v3 : Int32) (v4 : Int32) (v5 : Int32) (v6 : Int32) (v7 : Int32) (v8 : Int32) (v9 : Int32) (v10 : Int32) (v11 : Int32) (g : Nat → Int32) (gh : Nat → Int32) (hz0 : v2 = 0) (hd : zle v2 8) (sz : Nat) : Met l yX9_undo (zws yX9_undo cX9_undo 1 (some .int)) { frames := 0, cells := 0, slots := 0, locals := 0 } (zPre E D cy [.ref h0] [(h0, .inr (11, [.ref h1, .ref h2, .ref h3, .ref h4, .ref h5, .int v1, .int v2, .int v3, .int v4, .int v5, .ref h6, .int v6, .ref h7, .ref h8, .ref h9, .int v7, .int v8, .int v9, .int v10, .int v11])), (h1, .inl (cy 0, 64, .inl (g))), (h5, .inl (cy 0, 512, .inl (gh)))] sz) (zQi D ((q_X9_undo_1 cy h0 h1 h2 h3 h4 h5 h6 h7 h8 h9 v2 v3 v4 v5 v6 v7 v8 v9 v10 v11 g gh) n_X9_undo_1) (va_A [(h0, .inr (11, [.ref h1, .ref h2, .ref h3, .ref h4, .ref h5, .int v1, .int v2, .int v3, .int v4, .int v5, .ref h6, .int v6, .ref h7, .ref h8, .ref h9, .int v7, .int v8, .int v9, .int v10, .int v11])), (h1, .inl (cy 0, 64, .inl (g))), (h5, .inl (cy 0, 512, .inl (gh)))] sz) (0)) 0 0 (va_A [(h0, .inr (11, [.ref h1, .ref h2, .ref h3, .ref h4, .ref h5, .int v1, .int v2, .int v3, .int v4, .int v5, .ref h6, .int v6, .ref h7, .ref h8, .ref h9, .int v7, .int v8, .int v9, .int v10, .int v11])), (h1, .inl (cy 0, 64, .inl (g))), (h5, .inl (cy 0, 512, .inl (gh)))] sz) := by
  refine z_of (Qc := fun A => zQi D ((q_X9_undo_1 cy h0 h1 h2 h3 h4 h5 h6 h7 h8 h9 v2 v3 v4 v5 v6 v7 v8 v9 v10 v11 g gh) n_X9_undo_1) A (0)) (by decide +kernel) (Nat.le_of_ble_eq_true rfl) rfl ?_
  intro pG eN sT mI below meth cO A ls C hRT hnm hA hP hD hS hE0 hl
  have hX := C.x
  have hB := C.b
  have hd_ := hd.2
  refine lv_aload_n hX hB dX9_undo_0 rfl (lv_at hl 0 rfl) ?_
  refine lv_aload_n hX hB dX9_undo_1 rfl (lv_at hl 0 rfl) ?_
  refine fg_X9_29 C hP 0 rfl rfl dX9_undo_2 ?_
  refine lv_if_ne (tgt := 12) hX hB dX9_undo_5 (by decide) (fun c => absurd hz0 c) (fun _ => ?_)
  refine lv_iconst (v := 1) hX hB dX9_undo_8 (by decide) ?_
  refine lv_goto (tgt := 13) hX hB dX9_undo_9 (by decide) ?_
  refine fp_X9_25 C hP hD hS 0 rfl rfl rfl (Nat.le_of_ble_eq_true rfl) (w' := [(h0, .inr (11, [.ref h1, .ref h2, .ref h3, .ref h4, .ref h5, .int 1, .int v2, .int v3, .int v4, .int v5, .ref h6, .int v6, .ref h7, .ref h8, .ref h9, .int v7, .int v8, .int v9, .int v10, .int v11])), (h1, .inl (cy 0, 64, .inl (g))), (h5, .inl (cy 0, 512, .inl (gh)))]) rfl dX9_undo_13 (fun H locs hP hD hS => ?_)
  refine lv_aload_n hX hB dX9_undo_16 rfl (lv_at hl 0 rfl) ?_
  refine fg_X9_25 C hP 0 rfl rfl dX9_undo_17 ?_
  refine lv_if_le (tgt := 25) hX hB dX9_undo_20 (by decide) (fun c => absurd c (by decide)) (fun _ => ?_)
  refine lv_iconst (v := 0) hX hB dX9_undo_23 (by decide) ?_
  exact z_iret' 1 (w' := q_X9_undo_1 cy h0 h1 h2 h3 h4 h5 h6 h7 h8 h9 v2 v3 v4 v5 v6 v7 v8 v9 v10 v11 g gh) (r0 := (fun (o : Int32) => 0)) (by simp only [n_X9_undo_1]) C hRT hP hD hS (Nat.le_of_ble_eq_true rfl) (Nat.le_of_ble_eq_true rfl) rfl rfl dX9_undo_24

def n_X9_save (g : Nat → Int32) (gs : Nat → Int32) : Int32 × Int32 × Int32 × (Nat → Int32) :=
  let o_1 := n_X9_copy g gs 0 0
  (g 2, 0, 1, o_1)
def q_X9_save (cy : Nat → ClassId) (h0 : Nat) (h1 : Nat) (h2 : Nat) (h3 : Nat) (h4 : Nat) (h5 : Nat) (h6 : Nat) (h7 : Nat) (h8 : Nat) (h9 : Nat) (v2 : Int32) (v3 : Int32) (v4 : Int32) (v6 : Int32) (v7 : Int32) (v8 : Int32) (v9 : Int32) (v10 : Int32) (v11 : Int32) (g : Nat → Int32) (o : Int32 × Int32 × Int32 × (Nat → Int32)) : va_W := [(h0, .inr (11, [.ref h1, .ref h2, .ref h3, .ref h4, .ref h5, .int o.2.1, .int v2, .int v3, .int v4, .int o.2.2.1, .ref h6, .int v6, .ref h7, .ref h8, .ref h9, .int v7, .int v8, .int v9, .int v10, .int v11])), (h1, .inl (cy 0, 64, .inl (g))), (h4, .inl (cy 0, 64, .inl (o.2.2.2)))]
set_option maxHeartbeats 4000000 in
set_option maxRecDepth 100000 in
theorem c_X9_save (l : Launch) {E : zEn} (hE : zEok E) (D : zG) (cy : Nat → ClassId) (h0 h1 h2 h3 h4 h5 h6 h7 h8 h9 : Nat) (v1 : Int32) (v2 : Int32) (v3 : Int32) (v4 : Int32) (v5 : Int32) (v6 : Int32) (v7 : Int32) (v8 : Int32) (v9 : Int32) (v10 : Int32) (v11 : Int32) (g : Nat → Int32) (gs : Nat → Int32)  (sz : Nat) : Met l yX9_save (zws yX9_save cX9_save 1 (some .int)) { frames := 1, cells := 0, slots := 0, locals := 24 } (zPre E D cy [.ref h0] [(h0, .inr (11, [.ref h1, .ref h2, .ref h3, .ref h4, .ref h5, .int v1, .int v2, .int v3, .int v4, .int v5, .ref h6, .int v6, .ref h7, .ref h8, .ref h9, .int v7, .int v8, .int v9, .int v10, .int v11])), (h1, .inl (cy 0, 64, .inl (g))), (h4, .inl (cy 0, 64, .inl (gs)))] sz) (zQi D ((q_X9_save cy h0 h1 h2 h3 h4 h5 h6 h7 h8 h9 v2 v3 v4 v6 v7 v8 v9 v10 v11 g) (n_X9_save g gs)) (va_A [(h0, .inr (11, [.ref h1, .ref h2, .ref h3, .ref h4, .ref h5, .int v1, .int v2, .int v3, .int v4, .int v5, .ref h6, .int v6, .ref h7, .ref h8, .ref h9, .int v7, .int v8, .int v9, .int v10, .int v11])), (h1, .inl (cy 0, 64, .inl (g))), (h4, .inl (cy 0, 64, .inl (gs)))] sz) ((n_X9_save g gs).1)) 0 0 (va_A [(h0, .inr (11, [.ref h1, .ref h2, .ref h3, .ref h4, .ref h5, .int v1, .int v2, .int v3, .int v4, .int v5, .ref h6, .int v6, .ref h7, .ref h8, .ref h9, .int v7, .int v8, .int v9, .int v10, .int v11])), (h1, .inl (cy 0, 64, .inl (g))), (h4, .inl (cy 0, 64, .inl (gs)))] sz) := by
  refine z_of (Qc := fun A => zQi D ((q_X9_save cy h0 h1 h2 h3 h4 h5 h6 h7 h8 h9 v2 v3 v4 v6 v7 v8 v9 v10 v11 g) (n_X9_save g gs)) A ((n_X9_save g gs).1)) (by decide +kernel) (Nat.le_of_ble_eq_true rfl) rfl ?_
  intro pG eN sT mI below meth cO A ls C hRT hnm hA hP hD hS hE0 hl
  have hX := C.x
  have hB := C.b
  refine lv_aload_n hX hB dX9_save_0 rfl (lv_at hl 0 rfl) ?_
  refine lv_iconst (v := 0) hX hB dX9_save_1 (by decide) ?_
  refine fp_X9_25 C hP hD hS 0 rfl rfl rfl (Nat.le_of_ble_eq_true rfl) (w' := [(h0, .inr (11, [.ref h1, .ref h2, .ref h3, .ref h4, .ref h5, .int 0, .int v2, .int v3, .int v4, .int v5, .ref h6, .int v6, .ref h7, .ref h8, .ref h9, .int v7, .int v8, .int v9, .int v10, .int v11])), (h1, .inl (cy 0, 64, .inl (g))), (h4, .inl (cy 0, 64, .inl (gs)))]) rfl dX9_save_2 (fun H locs hP hD hS => ?_)
  refine lv_aload_n hX hB dX9_save_5 rfl (lv_at hl 0 rfl) ?_
  refine fg_X9_7 C hP 0 rfl rfl dX9_save_6 ?_
  refine lv_iconst (v := 0) hX hB dX9_save_9 (by decide) ?_
  refine lv_aload_n hX hB dX9_save_10 rfl (lv_at hl 0 rfl) ?_
  refine fg_X9_19 C hP 0 rfl rfl dX9_save_11 ?_
  refine lv_iconst (v := 0) hX hB dX9_save_14 (by decide) ?_
  refine z_callSv (isC := [1, 2]) (isR := [0]) (isO := [0, 1, 2]) (n_X9_copy g gs 0 0) (q_X9_copy cy h1 h4 64 64 g) (fun o_1 => [(h0, .inr (11, [.ref h1, .ref h2, .ref h3, .ref h4, .ref h5, .int 0, .int v2, .int v3, .int v4, .int v5, .ref h6, .int v6, .ref h7, .ref h8, .ref h9, .int v7, .int v8, .int v9, .int v10, .int v11])), (h1, .inl (cy 0, 64, .inl (g))), (h4, .inl (cy 0, 64, .inl (o_1)))]) (c_X9_copy l hE D cy h1 h4 64 64 g gs 0 0 0 0 (zlit 0) (zlit 0) (by omega) (by omega) (by omega) (by omega)) hE C zs_X9_72 ⟨Nat.le_of_ble_eq_true rfl, Nat.le_of_ble_eq_true rfl⟩ hP hD hS hA hE0 ⟨rfl, rfl, rfl, by decide, rfl, rfl, rfl⟩ rfl hl.1 (Nat.le_of_ble_eq_true rfl) rfl dX9_save_15 ⟨Nat.le_of_ble_eq_true rfl, Nat.le_of_ble_eq_true rfl⟩ (fun o_1 H locs eo_1 hP hD hS => ?_)
  refine lv_aload_n hX hB dX9_save_18 rfl (lv_at hl 0 rfl) ?_
  refine lv_iconst (v := 1) hX hB dX9_save_19 (by decide) ?_
  refine fp_X9_38 C hP hD hS 0 rfl (zb01 (Or.inr rfl)) (zfitb (Or.inr rfl)) (Nat.le_of_ble_eq_true rfl) (w' := [(h0, .inr (11, [.ref h1, .ref h2, .ref h3, .ref h4, .ref h5, .int 0, .int v2, .int v3, .int v4, .int 1, .ref h6, .int v6, .ref h7, .ref h8, .ref h9, .int v7, .int v8, .int v9, .int v10, .int v11])), (h1, .inl (cy 0, 64, .inl (g))), (h4, .inl (cy 0, 64, .inl (o_1)))]) rfl dX9_save_20 (fun H locs hP hD hS => ?_)
  refine lv_aload_n hX hB dX9_save_23 rfl (lv_at hl 0 rfl) ?_
  refine fg_X9_7 C hP 0 rfl rfl dX9_save_24 ?_
  refine lv_iconst (v := 2) hX hB dX9_save_27 (by decide) ?_
  refine z_iald C hP 1 rfl (k := 2) (zlit 2) (by decide) (by decide) (v := g 2) rfl dX9_save_28 ?_
  exact z_iret' (g 2, 0, 1, o_1) (w' := q_X9_save cy h0 h1 h2 h3 h4 h5 h6 h7 h8 h9 v2 v3 v4 v6 v7 v8 v9 v10 v11 g) (r0 := (fun (o : Int32 × Int32 × Int32 × (Nat → Int32)) => o.1)) (by simp only [n_X9_save, ← eo_1]) C hRT hP hD hS (Nat.le_of_ble_eq_true rfl) (Nat.le_of_ble_eq_true rfl) rfl rfl dX9_save_29

def n_X9_restore_ok (g : Nat → Int32) (gs : Nat → Int32) : Int32 × Int32 × Int32 × (Nat → Int32) :=
  let o_1 := n_X9_copy gs g 0 0
  (o_1 2, 0, 0, o_1)
def q_X9_restore_ok (cy : Nat → ClassId) (h0 : Nat) (h1 : Nat) (h2 : Nat) (h3 : Nat) (h4 : Nat) (h5 : Nat) (h6 : Nat) (h7 : Nat) (h8 : Nat) (h9 : Nat) (v3 : Int32) (v4 : Int32) (v5 : Int32) (v6 : Int32) (v7 : Int32) (v8 : Int32) (v9 : Int32) (v10 : Int32) (v11 : Int32) (gs : Nat → Int32) (o : Int32 × Int32 × Int32 × (Nat → Int32)) : va_W := [(h0, .inr (11, [.ref h1, .ref h2, .ref h3, .ref h4, .ref h5, .int o.2.1, .int o.2.2.1, .int v3, .int v4, .int v5, .ref h6, .int v6, .ref h7, .ref h8, .ref h9, .int v7, .int v8, .int v9, .int v10, .int v11])), (h1, .inl (cy 0, 64, .inl (o.2.2.2))), (h4, .inl (cy 0, 64, .inl (gs)))]
set_option maxHeartbeats 4000000 in
set_option maxRecDepth 100000 in
theorem c_X9_restore_ok (l : Launch) {E : zEn} (hE : zEok E) (D : zG) (cy : Nat → ClassId) (h0 h1 h2 h3 h4 h5 h6 h7 h8 h9 : Nat) (v1 : Int32) (v2 : Int32) (v3 : Int32) (v4 : Int32) (v5 : Int32) (v6 : Int32) (v7 : Int32) (v8 : Int32) (v9 : Int32) (v10 : Int32) (v11 : Int32) (g : Nat → Int32) (gs : Nat → Int32) (hz0 : ¬ v5 = 0) (sz : Nat) : Met l yX9_restore (zws yX9_restore cX9_restore 1 (some .int)) { frames := 1, cells := 0, slots := 0, locals := 24 } (zPre E D cy [.ref h0] [(h0, .inr (11, [.ref h1, .ref h2, .ref h3, .ref h4, .ref h5, .int v1, .int v2, .int v3, .int v4, .int v5, .ref h6, .int v6, .ref h7, .ref h8, .ref h9, .int v7, .int v8, .int v9, .int v10, .int v11])), (h1, .inl (cy 0, 64, .inl (g))), (h4, .inl (cy 0, 64, .inl (gs)))] sz) (zQi D ((q_X9_restore_ok cy h0 h1 h2 h3 h4 h5 h6 h7 h8 h9 v3 v4 v5 v6 v7 v8 v9 v10 v11 gs) (n_X9_restore_ok g gs)) (va_A [(h0, .inr (11, [.ref h1, .ref h2, .ref h3, .ref h4, .ref h5, .int v1, .int v2, .int v3, .int v4, .int v5, .ref h6, .int v6, .ref h7, .ref h8, .ref h9, .int v7, .int v8, .int v9, .int v10, .int v11])), (h1, .inl (cy 0, 64, .inl (g))), (h4, .inl (cy 0, 64, .inl (gs)))] sz) ((n_X9_restore_ok g gs).1)) 0 0 (va_A [(h0, .inr (11, [.ref h1, .ref h2, .ref h3, .ref h4, .ref h5, .int v1, .int v2, .int v3, .int v4, .int v5, .ref h6, .int v6, .ref h7, .ref h8, .ref h9, .int v7, .int v8, .int v9, .int v10, .int v11])), (h1, .inl (cy 0, 64, .inl (g))), (h4, .inl (cy 0, 64, .inl (gs)))] sz) := by
  refine z_of (Qc := fun A => zQi D ((q_X9_restore_ok cy h0 h1 h2 h3 h4 h5 h6 h7 h8 h9 v3 v4 v5 v6 v7 v8 v9 v10 v11 gs) (n_X9_restore_ok g gs)) A ((n_X9_restore_ok g gs).1)) (by decide +kernel) (Nat.le_of_ble_eq_true rfl) rfl ?_
  intro pG eN sT mI below meth cO A ls C hRT hnm hA hP hD hS hE0 hl
  have hX := C.x
  have hB := C.b
  refine lv_aload_n hX hB dX9_restore_0 rfl (lv_at hl 0 rfl) ?_
  refine lv_aload_n hX hB dX9_restore_1 rfl (lv_at hl 0 rfl) ?_
  refine fg_X9_38 C hP 0 rfl rfl dX9_restore_2 ?_
  refine lv_if_eq (tgt := 12) hX hB dX9_restore_5 (by decide) (fun c => absurd c hz0) (fun _ => ?_)
  refine lv_iconst (v := 0) hX hB dX9_restore_8 (by decide) ?_
  refine lv_goto (tgt := 13) hX hB dX9_restore_9 (by decide) ?_
  refine fp_X9_25 C hP hD hS 0 rfl rfl rfl (Nat.le_of_ble_eq_true rfl) (w' := [(h0, .inr (11, [.ref h1, .ref h2, .ref h3, .ref h4, .ref h5, .int 0, .int v2, .int v3, .int v4, .int v5, .ref h6, .int v6, .ref h7, .ref h8, .ref h9, .int v7, .int v8, .int v9, .int v10, .int v11])), (h1, .inl (cy 0, 64, .inl (g))), (h4, .inl (cy 0, 64, .inl (gs)))]) rfl dX9_restore_13 (fun H locs hP hD hS => ?_)
  refine lv_aload_n hX hB dX9_restore_16 rfl (lv_at hl 0 rfl) ?_
  refine fg_X9_25 C hP 0 rfl rfl dX9_restore_17 ?_
  refine lv_if_le (tgt := 25) hX hB dX9_restore_20 (by decide) (fun _ => ?_) (fun c => absurd (by decide) c)
  refine lv_aload_n hX hB dX9_restore_25 rfl (lv_at hl 0 rfl) ?_
  refine fg_X9_19 C hP 0 rfl rfl dX9_restore_26 ?_
  refine lv_iconst (v := 0) hX hB dX9_restore_29 (by decide) ?_
  refine lv_aload_n hX hB dX9_restore_30 rfl (lv_at hl 0 rfl) ?_
  refine fg_X9_7 C hP 0 rfl rfl dX9_restore_31 ?_
  refine lv_iconst (v := 0) hX hB dX9_restore_34 (by decide) ?_
  refine z_callSv (isC := [2, 1]) (isR := [0]) (isO := [0, 2, 1]) (n_X9_copy gs g 0 0) (q_X9_copy cy h4 h1 64 64 gs) (fun o_1 => [(h0, .inr (11, [.ref h1, .ref h2, .ref h3, .ref h4, .ref h5, .int 0, .int v2, .int v3, .int v4, .int v5, .ref h6, .int v6, .ref h7, .ref h8, .ref h9, .int v7, .int v8, .int v9, .int v10, .int v11])), (h1, .inl (cy 0, 64, .inl (o_1))), (h4, .inl (cy 0, 64, .inl (gs)))]) (c_X9_copy l hE D cy h4 h1 64 64 gs g 0 0 0 0 (zlit 0) (zlit 0) (by omega) (by omega) (by omega) (by omega)) hE C zs_X9_72 ⟨Nat.le_of_ble_eq_true rfl, Nat.le_of_ble_eq_true rfl⟩ hP hD hS hA hE0 ⟨rfl, rfl, rfl, by decide, rfl, rfl, rfl⟩ rfl hl.1 (Nat.le_of_ble_eq_true rfl) rfl dX9_restore_35 ⟨Nat.le_of_ble_eq_true rfl, Nat.le_of_ble_eq_true rfl⟩ (fun o_1 H locs eo_1 hP hD hS => ?_)
  refine lv_aload_n hX hB dX9_restore_38 rfl (lv_at hl 0 rfl) ?_
  refine lv_iconst (v := 0) hX hB dX9_restore_39 (by decide) ?_
  refine fp_X9_29 C hP hD hS 0 rfl rfl rfl (Nat.le_of_ble_eq_true rfl) (w' := [(h0, .inr (11, [.ref h1, .ref h2, .ref h3, .ref h4, .ref h5, .int 0, .int 0, .int v3, .int v4, .int v5, .ref h6, .int v6, .ref h7, .ref h8, .ref h9, .int v7, .int v8, .int v9, .int v10, .int v11])), (h1, .inl (cy 0, 64, .inl (o_1))), (h4, .inl (cy 0, 64, .inl (gs)))]) rfl dX9_restore_40 (fun H locs hP hD hS => ?_)
  refine lv_aload_n hX hB dX9_restore_43 rfl (lv_at hl 0 rfl) ?_
  refine fg_X9_7 C hP 0 rfl rfl dX9_restore_44 ?_
  refine lv_iconst (v := 2) hX hB dX9_restore_47 (by decide) ?_
  refine z_iald C hP 1 rfl (k := 2) (zlit 2) (by decide) (by decide) (v := o_1 2) rfl dX9_restore_48 ?_
  exact z_iret' (o_1 2, 0, 0, o_1) (w' := q_X9_restore_ok cy h0 h1 h2 h3 h4 h5 h6 h7 h8 h9 v3 v4 v5 v6 v7 v8 v9 v10 v11 gs) (r0 := (fun (o : Int32 × Int32 × Int32 × (Nat → Int32)) => o.1)) (by simp only [n_X9_restore_ok, ← eo_1]) C hRT hP hD hS (Nat.le_of_ble_eq_true rfl) (Nat.le_of_ble_eq_true rfl) rfl rfl dX9_restore_49

def n_X9_restore_1  : Int32 :=
  1
def q_X9_restore_1 (cy : Nat → ClassId) (h0 : Nat) (h1 : Nat) (h2 : Nat) (h3 : Nat) (h4 : Nat) (h5 : Nat) (h6 : Nat) (h7 : Nat) (h8 : Nat) (h9 : Nat) (v2 : Int32) (v3 : Int32) (v4 : Int32) (v5 : Int32) (v6 : Int32) (v7 : Int32) (v8 : Int32) (v9 : Int32) (v10 : Int32) (v11 : Int32) (g : Nat → Int32) (gs : Nat → Int32) (o : Int32) : va_W := [(h0, .inr (11, [.ref h1, .ref h2, .ref h3, .ref h4, .ref h5, .int o, .int v2, .int v3, .int v4, .int v5, .ref h6, .int v6, .ref h7, .ref h8, .ref h9, .int v7, .int v8, .int v9, .int v10, .int v11])), (h1, .inl (cy 0, 64, .inl (g))), (h4, .inl (cy 0, 64, .inl (gs)))]
set_option maxHeartbeats 4000000 in
set_option maxRecDepth 100000 in
theorem c_X9_restore_1 (l : Launch) {E : zEn} (hE : zEok E) (D : zG) (cy : Nat → ClassId) (h0 h1 h2 h3 h4 h5 h6 h7 h8 h9 : Nat) (v1 : Int32) (v2 : Int32) (v3 : Int32) (v4 : Int32) (v5 : Int32) (v6 : Int32) (v7 : Int32) (v8 : Int32) (v9 : Int32) (v10 : Int32) (v11 : Int32) (g : Nat → Int32) (gs : Nat → Int32) (hz0 : v5 = 0) (sz : Nat) : Met l yX9_restore (zws yX9_restore cX9_restore 1 (some .int)) { frames := 0, cells := 0, slots := 0, locals := 0 } (zPre E D cy [.ref h0] [(h0, .inr (11, [.ref h1, .ref h2, .ref h3, .ref h4, .ref h5, .int v1, .int v2, .int v3, .int v4, .int v5, .ref h6, .int v6, .ref h7, .ref h8, .ref h9, .int v7, .int v8, .int v9, .int v10, .int v11])), (h1, .inl (cy 0, 64, .inl (g))), (h4, .inl (cy 0, 64, .inl (gs)))] sz) (zQi D ((q_X9_restore_1 cy h0 h1 h2 h3 h4 h5 h6 h7 h8 h9 v2 v3 v4 v5 v6 v7 v8 v9 v10 v11 g gs) n_X9_restore_1) (va_A [(h0, .inr (11, [.ref h1, .ref h2, .ref h3, .ref h4, .ref h5, .int v1, .int v2, .int v3, .int v4, .int v5, .ref h6, .int v6, .ref h7, .ref h8, .ref h9, .int v7, .int v8, .int v9, .int v10, .int v11])), (h1, .inl (cy 0, 64, .inl (g))), (h4, .inl (cy 0, 64, .inl (gs)))] sz) (0)) 0 0 (va_A [(h0, .inr (11, [.ref h1, .ref h2, .ref h3, .ref h4, .ref h5, .int v1, .int v2, .int v3, .int v4, .int v5, .ref h6, .int v6, .ref h7, .ref h8, .ref h9, .int v7, .int v8, .int v9, .int v10, .int v11])), (h1, .inl (cy 0, 64, .inl (g))), (h4, .inl (cy 0, 64, .inl (gs)))] sz) := by
  refine z_of (Qc := fun A => zQi D ((q_X9_restore_1 cy h0 h1 h2 h3 h4 h5 h6 h7 h8 h9 v2 v3 v4 v5 v6 v7 v8 v9 v10 v11 g gs) n_X9_restore_1) A (0)) (by decide +kernel) (Nat.le_of_ble_eq_true rfl) rfl ?_
  intro pG eN sT mI below meth cO A ls C hRT hnm hA hP hD hS hE0 hl
  have hX := C.x
  have hB := C.b
  refine lv_aload_n hX hB dX9_restore_0 rfl (lv_at hl 0 rfl) ?_
  refine lv_aload_n hX hB dX9_restore_1 rfl (lv_at hl 0 rfl) ?_
  refine fg_X9_38 C hP 0 rfl rfl dX9_restore_2 ?_
  refine lv_if_eq (tgt := 12) hX hB dX9_restore_5 (by decide) (fun _ => ?_) (fun c => absurd hz0 c)
  refine lv_iconst (v := 1) hX hB dX9_restore_12 (by decide) ?_
  refine fp_X9_25 C hP hD hS 0 rfl rfl rfl (Nat.le_of_ble_eq_true rfl) (w' := [(h0, .inr (11, [.ref h1, .ref h2, .ref h3, .ref h4, .ref h5, .int 1, .int v2, .int v3, .int v4, .int v5, .ref h6, .int v6, .ref h7, .ref h8, .ref h9, .int v7, .int v8, .int v9, .int v10, .int v11])), (h1, .inl (cy 0, 64, .inl (g))), (h4, .inl (cy 0, 64, .inl (gs)))]) rfl dX9_restore_13 (fun H locs hP hD hS => ?_)
  refine lv_aload_n hX hB dX9_restore_16 rfl (lv_at hl 0 rfl) ?_
  refine fg_X9_25 C hP 0 rfl rfl dX9_restore_17 ?_
  refine lv_if_le (tgt := 25) hX hB dX9_restore_20 (by decide) (fun c => absurd c (by decide)) (fun _ => ?_)
  refine lv_iconst (v := 0) hX hB dX9_restore_23 (by decide) ?_
  exact z_iret' 1 (w' := q_X9_restore_1 cy h0 h1 h2 h3 h4 h5 h6 h7 h8 h9 v2 v3 v4 v5 v6 v7 v8 v9 v10 v11 g gs) (r0 := (fun (o : Int32) => 0)) (by simp only [n_X9_restore_1]) C hRT hP hD hS (Nat.le_of_ble_eq_true rfl) (Nat.le_of_ble_eq_true rfl) rfl rfl dX9_restore_24

def n_X9_outputAt_ok (go : Nat → Int32) (i : Nat) : Int32 × Int32 :=
  (((go i).toUInt32 % 65536).toInt32, 0)
def q_X9_outputAt_ok (cy : Nat → ClassId) (h0 : Nat) (h1 : Nat) (h2 : Nat) (h3 : Nat) (h4 : Nat) (h5 : Nat) (h6 : Nat) (h7 : Nat) (h8 : Nat) (h9 : Nat) (v2 : Int32) (v3 : Int32) (v4 : Int32) (v5 : Int32) (v6 : Int32) (v7 : Int32) (v8 : Int32) (v9 : Int32) (v10 : Int32) (v11 : Int32) (go : Nat → Int32) (o : Int32 × Int32) : va_W := [(h0, .inr (11, [.ref h1, .ref h2, .ref h3, .ref h4, .ref h5, .int o.2, .int v2, .int v3, .int v4, .int v5, .ref h6, .int v6, .ref h7, .ref h8, .ref h9, .int v7, .int v8, .int v9, .int v10, .int v11])), (h6, .inl (cy 0, 120, .inl (go)))]
set_option maxHeartbeats 4000000 in
set_option maxRecDepth 100000 in
theorem c_X9_outputAt_ok (l : Launch) {E : zEn} (hE : zEok E) (D : zG) (cy : Nat → ClassId) (h0 h1 h2 h3 h4 h5 h6 h7 h8 h9 : Nat) (v1 : Int32) (v2 : Int32) (v3 : Int32) (v4 : Int32) (v5 : Int32) (v6 : Int32) (v7 : Int32) (v8 : Int32) (v9 : Int32) (v10 : Int32) (v11 : Int32) (go : Nat → Int32) (x : Int32) (i : Nat) (hx : zi x i) (hi : i < zn v6) (ho : zle v6 120) (sz : Nat) : Met l yX9_outputAt (zws yX9_outputAt cX9_outputAt 2 (some .char)) { frames := 1, cells := 0, slots := 0, locals := 22 } (zPre E D cy [.ref h0, .int x] [(h0, .inr (11, [.ref h1, .ref h2, .ref h3, .ref h4, .ref h5, .int v1, .int v2, .int v3, .int v4, .int v5, .ref h6, .int v6, .ref h7, .ref h8, .ref h9, .int v7, .int v8, .int v9, .int v10, .int v11])), (h6, .inl (cy 0, 120, .inl (go)))] sz) (zQi D ((q_X9_outputAt_ok cy h0 h1 h2 h3 h4 h5 h6 h7 h8 h9 v2 v3 v4 v5 v6 v7 v8 v9 v10 v11 go) (n_X9_outputAt_ok go i)) (va_A [(h0, .inr (11, [.ref h1, .ref h2, .ref h3, .ref h4, .ref h5, .int v1, .int v2, .int v3, .int v4, .int v5, .ref h6, .int v6, .ref h7, .ref h8, .ref h9, .int v7, .int v8, .int v9, .int v10, .int v11])), (h6, .inl (cy 0, 120, .inl (go)))] sz) ((n_X9_outputAt_ok go i).1)) 0 0 (va_A [(h0, .inr (11, [.ref h1, .ref h2, .ref h3, .ref h4, .ref h5, .int v1, .int v2, .int v3, .int v4, .int v5, .ref h6, .int v6, .ref h7, .ref h8, .ref h9, .int v7, .int v8, .int v9, .int v10, .int v11])), (h6, .inl (cy 0, 120, .inl (go)))] sz) := by
  refine z_of (Qc := fun A => zQi D ((q_X9_outputAt_ok cy h0 h1 h2 h3 h4 h5 h6 h7 h8 h9 v2 v3 v4 v5 v6 v7 v8 v9 v10 v11 go) (n_X9_outputAt_ok go i)) A ((n_X9_outputAt_ok go i).1)) (by decide +kernel) (Nat.le_of_ble_eq_true rfl) rfl ?_
  intro pG eN sT mI below meth cO A ls C hRT hnm hA hP hD hS hE0 hl
  have hX := C.x
  have hB := C.b
  have ho_ := ho.2
  refine lv_aload_n hX hB dX9_outputAt_0 rfl (lv_at hl 0 rfl) ?_
  refine lv_iload_n hX hB dX9_outputAt_1 rfl (lv_at hl 1 rfl) ?_
  refine lv_iconst (v := 0) hX hB dX9_outputAt_2 (by decide) ?_
  refine lv_aload_n hX hB dX9_outputAt_3 rfl (lv_at hl 0 rfl) ?_
  refine fg_X9_45 C hP 0 rfl rfl dX9_outputAt_4 ?_
  refine lv_iconst (v := 1) hX hB dX9_outputAt_7 (by decide) ?_
  refine z_isub (v := nI ((zn v6) - 1)) C dX9_outputAt_8 (zi_sub ho.1 (zlit 1) (by omega)) ?_
  refine z_callSi (isC := []) (isR := [0, 1]) (isO := [0, 1]) (()) (q_X9_in_t ) (fun o_1 => [(h0, .inr (11, [.ref h1, .ref h2, .ref h3, .ref h4, .ref h5, .int v1, .int v2, .int v3, .int v4, .int v5, .ref h6, .int v6, .ref h7, .ref h8, .ref h9, .int v7, .int v8, .int v9, .int v10, .int v11])), (h6, .inl (cy 0, 120, .inl (go)))]) (fun o_1 => 1) (c_X9_in_t l hE D cy  x i 0 0 (nI ((zn v6) - 1)) ((zn v6) - 1) hx (zlit 0) (zi_i ((zn v6) - 1)) (by omega) (by omega) (by omega)) hE C zs_X9_127 ⟨Nat.le_of_ble_eq_true rfl, Nat.le_of_ble_eq_true rfl⟩ hP hD hS hA hE0 ⟨rfl, rfl, rfl, by decide, rfl, rfl, rfl⟩ rfl hl.1 (Nat.le_of_ble_eq_true rfl) rfl dX9_outputAt_9 ⟨Nat.le_of_ble_eq_true rfl, Nat.le_of_ble_eq_true rfl⟩ (fun o_1 H locs eo_1 hP hD hS => ?_)
  refine lv_if_eq (tgt := 19) hX hB dX9_outputAt_12 (by decide) (fun c => absurd c (by decide)) (fun _ => ?_)
  refine lv_iconst (v := 0) hX hB dX9_outputAt_15 (by decide) ?_
  refine lv_goto (tgt := 20) hX hB dX9_outputAt_16 (by decide) ?_
  refine fp_X9_25 C hP hD hS 0 rfl rfl rfl (Nat.le_of_ble_eq_true rfl) (w' := [(h0, .inr (11, [.ref h1, .ref h2, .ref h3, .ref h4, .ref h5, .int 0, .int v2, .int v3, .int v4, .int v5, .ref h6, .int v6, .ref h7, .ref h8, .ref h9, .int v7, .int v8, .int v9, .int v10, .int v11])), (h6, .inl (cy 0, 120, .inl (go)))]) rfl dX9_outputAt_20 (fun H locs hP hD hS => ?_)
  refine lv_aload_n hX hB dX9_outputAt_23 rfl (lv_at hl 0 rfl) ?_
  refine fg_X9_25 C hP 0 rfl rfl dX9_outputAt_24 ?_
  refine lv_if_le (tgt := 35) hX hB dX9_outputAt_27 (by decide) (fun _ => ?_) (fun c => absurd (by decide) c)
  refine lv_aload_n hX hB dX9_outputAt_35 rfl (lv_at hl 0 rfl) ?_
  refine fg_X9_42 C hP 0 rfl rfl dX9_outputAt_36 ?_
  refine lv_iload_n hX hB dX9_outputAt_39 rfl (lv_at hl 1 rfl) ?_
  refine z_iald C hP 1 rfl (k := i) hx (by omega) (by decide) (v := go i) rfl dX9_outputAt_40 ?_
  refine lv_i2c (v := ((go i).toUInt32 % 65536).toInt32) hX hB dX9_outputAt_41 rfl ?_
  exact z_zret' (((go i).toUInt32 % 65536).toInt32, 0) (w' := q_X9_outputAt_ok cy h0 h1 h2 h3 h4 h5 h6 h7 h8 h9 v2 v3 v4 v5 v6 v7 v8 v9 v10 v11 go) (r0 := (fun (o : Int32 × Int32) => o.1)) (by simp only [n_X9_outputAt_ok]) C hRT (pk_nc (go i)) hP hD hS (Nat.le_of_ble_eq_true rfl) (Nat.le_of_ble_eq_true rfl) rfl rfl dX9_outputAt_42

def n_X9_outputAt_1 (v6 : Int32) (x : Int32) : Int32 :=
  let o_1 := n_X9_in x 0 (v6 - 1)
  1
def q_X9_outputAt_1 (cy : Nat → ClassId) (h0 : Nat) (h1 : Nat) (h2 : Nat) (h3 : Nat) (h4 : Nat) (h5 : Nat) (h6 : Nat) (h7 : Nat) (h8 : Nat) (h9 : Nat) (v2 : Int32) (v3 : Int32) (v4 : Int32) (v5 : Int32) (v6 : Int32) (v7 : Int32) (v8 : Int32) (v9 : Int32) (v10 : Int32) (v11 : Int32) (go : Nat → Int32) (o : Int32) : va_W := [(h0, .inr (11, [.ref h1, .ref h2, .ref h3, .ref h4, .ref h5, .int o, .int v2, .int v3, .int v4, .int v5, .ref h6, .int v6, .ref h7, .ref h8, .ref h9, .int v7, .int v8, .int v9, .int v10, .int v11])), (h6, .inl (cy 0, 120, .inl (go)))]
set_option maxHeartbeats 4000000 in
set_option maxRecDepth 100000 in
theorem c_X9_outputAt_1 (l : Launch) {E : zEn} (hE : zEok E) (D : zG) (cy : Nat → ClassId) (h0 h1 h2 h3 h4 h5 h6 h7 h8 h9 : Nat) (v1 : Int32) (v2 : Int32) (v3 : Int32) (v4 : Int32) (v5 : Int32) (v6 : Int32) (v7 : Int32) (v8 : Int32) (v9 : Int32) (v10 : Int32) (v11 : Int32) (go : Nat → Int32) (x : Int32) (hin : n_X9_in x 0 (v6 - 1) = 0) (sz : Nat) : Met l yX9_outputAt (zws yX9_outputAt cX9_outputAt 2 (some .char)) { frames := 1, cells := 0, slots := 0, locals := 22 } (zPre E D cy [.ref h0, .int x] [(h0, .inr (11, [.ref h1, .ref h2, .ref h3, .ref h4, .ref h5, .int v1, .int v2, .int v3, .int v4, .int v5, .ref h6, .int v6, .ref h7, .ref h8, .ref h9, .int v7, .int v8, .int v9, .int v10, .int v11])), (h6, .inl (cy 0, 120, .inl (go)))] sz) (zQi D ((q_X9_outputAt_1 cy h0 h1 h2 h3 h4 h5 h6 h7 h8 h9 v2 v3 v4 v5 v6 v7 v8 v9 v10 v11 go) (n_X9_outputAt_1 v6 x)) (va_A [(h0, .inr (11, [.ref h1, .ref h2, .ref h3, .ref h4, .ref h5, .int v1, .int v2, .int v3, .int v4, .int v5, .ref h6, .int v6, .ref h7, .ref h8, .ref h9, .int v7, .int v8, .int v9, .int v10, .int v11])), (h6, .inl (cy 0, 120, .inl (go)))] sz) (32)) 0 0 (va_A [(h0, .inr (11, [.ref h1, .ref h2, .ref h3, .ref h4, .ref h5, .int v1, .int v2, .int v3, .int v4, .int v5, .ref h6, .int v6, .ref h7, .ref h8, .ref h9, .int v7, .int v8, .int v9, .int v10, .int v11])), (h6, .inl (cy 0, 120, .inl (go)))] sz) := by
  refine z_of (Qc := fun A => zQi D ((q_X9_outputAt_1 cy h0 h1 h2 h3 h4 h5 h6 h7 h8 h9 v2 v3 v4 v5 v6 v7 v8 v9 v10 v11 go) (n_X9_outputAt_1 v6 x)) A (32)) (by decide +kernel) (Nat.le_of_ble_eq_true rfl) rfl ?_
  intro pG eN sT mI below meth cO A ls C hRT hnm hA hP hD hS hE0 hl
  have hX := C.x
  have hB := C.b
  refine lv_aload_n hX hB dX9_outputAt_0 rfl (lv_at hl 0 rfl) ?_
  refine lv_iload_n hX hB dX9_outputAt_1 rfl (lv_at hl 1 rfl) ?_
  refine lv_iconst (v := 0) hX hB dX9_outputAt_2 (by decide) ?_
  refine lv_aload_n hX hB dX9_outputAt_3 rfl (lv_at hl 0 rfl) ?_
  refine fg_X9_45 C hP 0 rfl rfl dX9_outputAt_4 ?_
  refine lv_iconst (v := 1) hX hB dX9_outputAt_7 (by decide) ?_
  refine z_isub (v := v6 - 1) C dX9_outputAt_8 rfl ?_
  refine z_callSi (isC := []) (isR := [0, 1]) (isO := [0, 1]) (n_X9_in x 0 (v6 - 1)) (q_X9_in ) (fun o_1 => [(h0, .inr (11, [.ref h1, .ref h2, .ref h3, .ref h4, .ref h5, .int v1, .int v2, .int v3, .int v4, .int v5, .ref h6, .int v6, .ref h7, .ref h8, .ref h9, .int v7, .int v8, .int v9, .int v10, .int v11])), (h6, .inl (cy 0, 120, .inl (go)))]) (fun o_1 => o_1) (c_X9_in l hE D cy  x 0 (v6 - 1) ) hE C zs_X9_127 ⟨Nat.le_of_ble_eq_true rfl, Nat.le_of_ble_eq_true rfl⟩ hP hD hS hA hE0 ⟨rfl, rfl, rfl, by decide, rfl, rfl, rfl⟩ rfl hl.1 (Nat.le_of_ble_eq_true rfl) rfl dX9_outputAt_9 ⟨Nat.le_of_ble_eq_true rfl, Nat.le_of_ble_eq_true rfl⟩ (fun o_1 H locs eo_1 hP hD hS => ?_)
  refine lv_if_eq (tgt := 19) hX hB dX9_outputAt_12 (by decide) (fun _ => ?_) (fun c => absurd (by rw [eo_1]; exact hin) c)
  refine lv_iconst (v := 1) hX hB dX9_outputAt_19 (by decide) ?_
  refine fp_X9_25 C hP hD hS 0 rfl rfl rfl (Nat.le_of_ble_eq_true rfl) (w' := [(h0, .inr (11, [.ref h1, .ref h2, .ref h3, .ref h4, .ref h5, .int 1, .int v2, .int v3, .int v4, .int v5, .ref h6, .int v6, .ref h7, .ref h8, .ref h9, .int v7, .int v8, .int v9, .int v10, .int v11])), (h6, .inl (cy 0, 120, .inl (go)))]) rfl dX9_outputAt_20 (fun H locs hP hD hS => ?_)
  refine lv_aload_n hX hB dX9_outputAt_23 rfl (lv_at hl 0 rfl) ?_
  refine fg_X9_25 C hP 0 rfl rfl dX9_outputAt_24 ?_
  refine lv_if_le (tgt := 35) hX hB dX9_outputAt_27 (by decide) (fun c => absurd c (by decide)) (fun _ => ?_)
  refine lv_bipush (v := 32) hX hB dX9_outputAt_30 (by decide) ?_
  refine lv_goto (tgt := 42) hX hB dX9_outputAt_32 (by decide) ?_
  exact z_zret' 1 (w' := q_X9_outputAt_1 cy h0 h1 h2 h3 h4 h5 h6 h7 h8 h9 v2 v3 v4 v5 v6 v7 v8 v9 v10 v11 go) (r0 := (fun (o : Int32) => 32)) (by simp only [n_X9_outputAt_1, ← eo_1]) C hRT rfl hP hD hS (Nat.le_of_ble_eq_true rfl) (Nat.le_of_ble_eq_true rfl) rfl rfl dX9_outputAt_42

def n_X9_type_ok (v7 : Int32) (gi : Nat → Int32) (x : Int32) : Int32 × Int32 × Int32 × (Nat → Int32) :=
  (nI ((zn v7) + 1), 0, nI ((zn v7) + 1), upd gi (zn v7) x)
def q_X9_type_ok (cy : Nat → ClassId) (h0 : Nat) (h1 : Nat) (h2 : Nat) (h3 : Nat) (h4 : Nat) (h5 : Nat) (h6 : Nat) (h7 : Nat) (h8 : Nat) (h9 : Nat) (v2 : Int32) (v3 : Int32) (v4 : Int32) (v5 : Int32) (v6 : Int32) (v8 : Int32) (v9 : Int32) (v10 : Int32) (v11 : Int32) (o : Int32 × Int32 × Int32 × (Nat → Int32)) : va_W := [(h0, .inr (11, [.ref h1, .ref h2, .ref h3, .ref h4, .ref h5, .int o.2.1, .int v2, .int v3, .int v4, .int v5, .ref h6, .int v6, .ref h7, .ref h8, .ref h9, .int o.2.2.1, .int v8, .int v9, .int v10, .int v11])), (h7, .inl (cy 0, 60, .inl (o.2.2.2)))]
set_option maxHeartbeats 4000000 in
set_option maxRecDepth 100000 in
theorem c_X9_type_ok (l : Launch) {E : zEn} (hE : zEok E) (D : zG) (cy : Nat → ClassId) (h0 h1 h2 h3 h4 h5 h6 h7 h8 h9 : Nat) (v1 : Int32) (v2 : Int32) (v3 : Int32) (v4 : Int32) (v5 : Int32) (v6 : Int32) (v7 : Int32) (v8 : Int32) (v9 : Int32) (v10 : Int32) (v11 : Int32) (gi : Nat → Int32) (x : Int32) (i : Nat) (hx : zi x i) (hxb : i ≤ 126) (hxa : 32 ≤ i) (hl6 : zle v7 60) (hl60 : ¬ v7 = 60) (hl61 : zn v7 < 60) (sz : Nat) : Met l yX9_type (zws yX9_type cX9_type 2 (some .int)) { frames := 1, cells := 0, slots := 0, locals := 22 } (zPre E D cy [.ref h0, .int x] [(h0, .inr (11, [.ref h1, .ref h2, .ref h3, .ref h4, .ref h5, .int v1, .int v2, .int v3, .int v4, .int v5, .ref h6, .int v6, .ref h7, .ref h8, .ref h9, .int v7, .int v8, .int v9, .int v10, .int v11])), (h7, .inl (cy 0, 60, .inl (gi)))] sz) (zQi D ((q_X9_type_ok cy h0 h1 h2 h3 h4 h5 h6 h7 h8 h9 v2 v3 v4 v5 v6 v8 v9 v10 v11) (n_X9_type_ok v7 gi x)) (va_A [(h0, .inr (11, [.ref h1, .ref h2, .ref h3, .ref h4, .ref h5, .int v1, .int v2, .int v3, .int v4, .int v5, .ref h6, .int v6, .ref h7, .ref h8, .ref h9, .int v7, .int v8, .int v9, .int v10, .int v11])), (h7, .inl (cy 0, 60, .inl (gi)))] sz) ((n_X9_type_ok v7 gi x).1)) 0 0 (va_A [(h0, .inr (11, [.ref h1, .ref h2, .ref h3, .ref h4, .ref h5, .int v1, .int v2, .int v3, .int v4, .int v5, .ref h6, .int v6, .ref h7, .ref h8, .ref h9, .int v7, .int v8, .int v9, .int v10, .int v11])), (h7, .inl (cy 0, 60, .inl (gi)))] sz) := by
  refine z_of (Qc := fun A => zQi D ((q_X9_type_ok cy h0 h1 h2 h3 h4 h5 h6 h7 h8 h9 v2 v3 v4 v5 v6 v8 v9 v10 v11) (n_X9_type_ok v7 gi x)) A ((n_X9_type_ok v7 gi x).1)) (by decide +kernel) (Nat.le_of_ble_eq_true rfl) rfl ?_
  intro pG eN sT mI below meth cO A ls C hRT hnm hA hP hD hS hE0 hl
  have hX := C.x
  have hB := C.b
  have hl6_ := hl6.2
  refine lv_aload_n hX hB dX9_type_0 rfl (lv_at hl 0 rfl) ?_
  refine lv_iload_n hX hB dX9_type_1 rfl (lv_at hl 1 rfl) ?_
  refine lv_bipush (v := 32) hX hB dX9_type_2 (by decide) ?_
  refine lv_bipush (v := 126) hX hB dX9_type_4 (by decide) ?_
  refine z_callSi (isC := []) (isR := [0, 1]) (isO := [0, 1]) (()) (q_X9_in_t ) (fun o_1 => [(h0, .inr (11, [.ref h1, .ref h2, .ref h3, .ref h4, .ref h5, .int v1, .int v2, .int v3, .int v4, .int v5, .ref h6, .int v6, .ref h7, .ref h8, .ref h9, .int v7, .int v8, .int v9, .int v10, .int v11])), (h7, .inl (cy 0, 60, .inl (gi)))]) (fun o_1 => 1) (c_X9_in_t l hE D cy  x i 32 32 126 126 hx (zlit 32) (zlit 126) (by omega) (by omega) (by omega)) hE C zs_X9_127 ⟨Nat.le_of_ble_eq_true rfl, Nat.le_of_ble_eq_true rfl⟩ hP hD hS hA hE0 ⟨rfl, rfl, rfl, by decide, rfl, rfl, rfl⟩ rfl hl.1 (Nat.le_of_ble_eq_true rfl) rfl dX9_type_6 ⟨Nat.le_of_ble_eq_true rfl, Nat.le_of_ble_eq_true rfl⟩ (fun o_1 H locs eo_1 hP hD hS => ?_)
  refine lv_if_ne (tgt := 16) hX hB dX9_type_9 (by decide) (fun _ => ?_) (fun c => absurd c (by decide))
  refine lv_aload_n hX hB dX9_type_16 rfl (lv_at hl 0 rfl) ?_
  refine fg_X9_57 C hP 0 rfl rfl dX9_type_17 ?_
  refine lv_bipush (v := 60) hX hB dX9_type_20 (by decide) ?_
  refine lv_icmp_ne (tgt := 29) hX hB dX9_type_22 (by decide) (fun _ => ?_) (fun c => absurd c hl60)
  refine lv_iconst (v := 0) hX hB dX9_type_29 (by decide) ?_
  refine fp_X9_25 C hP hD hS 0 rfl rfl rfl (Nat.le_of_ble_eq_true rfl) (w' := [(h0, .inr (11, [.ref h1, .ref h2, .ref h3, .ref h4, .ref h5, .int 0, .int v2, .int v3, .int v4, .int v5, .ref h6, .int v6, .ref h7, .ref h8, .ref h9, .int v7, .int v8, .int v9, .int v10, .int v11])), (h7, .inl (cy 0, 60, .inl (gi)))]) rfl dX9_type_30 (fun H locs hP hD hS => ?_)
  refine lv_aload_n hX hB dX9_type_33 rfl (lv_at hl 0 rfl) ?_
  refine fg_X9_25 C hP 0 rfl rfl dX9_type_34 ?_
  refine lv_if_le (tgt := 42) hX hB dX9_type_37 (by decide) (fun _ => ?_) (fun c => absurd (by decide) c)
  refine lv_aload_n hX hB dX9_type_42 rfl (lv_at hl 0 rfl) ?_
  refine fg_X9_48 C hP 0 rfl rfl dX9_type_43 ?_
  refine lv_aload_n hX hB dX9_type_46 rfl (lv_at hl 0 rfl) ?_
  refine fg_X9_57 C hP 0 rfl rfl dX9_type_47 ?_
  refine lv_iload_n hX hB dX9_type_50 rfl (lv_at hl 1 rfl) ?_
  refine z_iast C hP hD hS 1 rfl (k := zn v7) hl6.1 (by omega) (by decide) (w' := [(h0, .inr (11, [.ref h1, .ref h2, .ref h3, .ref h4, .ref h5, .int 0, .int v2, .int v3, .int v4, .int v5, .ref h6, .int v6, .ref h7, .ref h8, .ref h9, .int v7, .int v8, .int v9, .int v10, .int v11])), (h7, .inl (cy 0, 60, .inl (upd gi (zn v7) x)))]) rfl dX9_type_51 (fun H locs hP hD hS => ?_)
  refine lv_aload_n hX hB dX9_type_52 rfl (lv_at hl 0 rfl) ?_
  refine lv_dup hX hB dX9_type_53 rfl ?_
  refine fg_X9_57 C hP 0 rfl rfl dX9_type_54 ?_
  refine lv_iconst (v := 1) hX hB dX9_type_57 (by decide) ?_
  refine z_iadd (v := nI ((zn v7) + 1)) C dX9_type_58 (zi_add hl6.1 (zlit 1)) ?_
  refine fp_X9_57 C hP hD hS 0 rfl rfl rfl (Nat.le_of_ble_eq_true rfl) (w' := [(h0, .inr (11, [.ref h1, .ref h2, .ref h3, .ref h4, .ref h5, .int 0, .int v2, .int v3, .int v4, .int v5, .ref h6, .int v6, .ref h7, .ref h8, .ref h9, .int (nI ((zn v7) + 1)), .int v8, .int v9, .int v10, .int v11])), (h7, .inl (cy 0, 60, .inl (upd gi (zn v7) x)))]) rfl dX9_type_59 (fun H locs hP hD hS => ?_)
  refine lv_aload_n hX hB dX9_type_62 rfl (lv_at hl 0 rfl) ?_
  refine fg_X9_57 C hP 0 rfl rfl dX9_type_63 ?_
  exact z_iret' (nI ((zn v7) + 1), 0, nI ((zn v7) + 1), upd gi (zn v7) x) (w' := q_X9_type_ok cy h0 h1 h2 h3 h4 h5 h6 h7 h8 h9 v2 v3 v4 v5 v6 v8 v9 v10 v11) (r0 := (fun (o : Int32 × Int32 × Int32 × (Nat → Int32)) => o.1)) (by simp only [n_X9_type_ok]) C hRT hP hD hS (Nat.le_of_ble_eq_true rfl) (Nat.le_of_ble_eq_true rfl) rfl rfl dX9_type_66

def n_X9_type_2  : Int32 :=
  2
def q_X9_type_2 (cy : Nat → ClassId) (h0 : Nat) (h1 : Nat) (h2 : Nat) (h3 : Nat) (h4 : Nat) (h5 : Nat) (h6 : Nat) (h7 : Nat) (h8 : Nat) (h9 : Nat) (v2 : Int32) (v3 : Int32) (v4 : Int32) (v5 : Int32) (v6 : Int32) (v7 : Int32) (v8 : Int32) (v9 : Int32) (v10 : Int32) (v11 : Int32) (gi : Nat → Int32) (o : Int32) : va_W := [(h0, .inr (11, [.ref h1, .ref h2, .ref h3, .ref h4, .ref h5, .int o, .int v2, .int v3, .int v4, .int v5, .ref h6, .int v6, .ref h7, .ref h8, .ref h9, .int v7, .int v8, .int v9, .int v10, .int v11])), (h7, .inl (cy 0, 60, .inl (gi)))]
set_option maxHeartbeats 4000000 in
set_option maxRecDepth 100000 in
theorem c_X9_type_2 (l : Launch) {E : zEn} (hE : zEok E) (D : zG) (cy : Nat → ClassId) (h0 h1 h2 h3 h4 h5 h6 h7 h8 h9 : Nat) (v1 : Int32) (v2 : Int32) (v3 : Int32) (v4 : Int32) (v5 : Int32) (v6 : Int32) (v7 : Int32) (v8 : Int32) (v9 : Int32) (v10 : Int32) (v11 : Int32) (gi : Nat → Int32) (x : Int32) (i : Nat) (hx : zi x i) (hxb : i ≤ 126) (hxa : 32 ≤ i) (hl60 : v7 = 60) (sz : Nat) : Met l yX9_type (zws yX9_type cX9_type 2 (some .int)) { frames := 1, cells := 0, slots := 0, locals := 22 } (zPre E D cy [.ref h0, .int x] [(h0, .inr (11, [.ref h1, .ref h2, .ref h3, .ref h4, .ref h5, .int v1, .int v2, .int v3, .int v4, .int v5, .ref h6, .int v6, .ref h7, .ref h8, .ref h9, .int v7, .int v8, .int v9, .int v10, .int v11])), (h7, .inl (cy 0, 60, .inl (gi)))] sz) (zQi D ((q_X9_type_2 cy h0 h1 h2 h3 h4 h5 h6 h7 h8 h9 v2 v3 v4 v5 v6 v7 v8 v9 v10 v11 gi) n_X9_type_2) (va_A [(h0, .inr (11, [.ref h1, .ref h2, .ref h3, .ref h4, .ref h5, .int v1, .int v2, .int v3, .int v4, .int v5, .ref h6, .int v6, .ref h7, .ref h8, .ref h9, .int v7, .int v8, .int v9, .int v10, .int v11])), (h7, .inl (cy 0, 60, .inl (gi)))] sz) (0)) 0 0 (va_A [(h0, .inr (11, [.ref h1, .ref h2, .ref h3, .ref h4, .ref h5, .int v1, .int v2, .int v3, .int v4, .int v5, .ref h6, .int v6, .ref h7, .ref h8, .ref h9, .int v7, .int v8, .int v9, .int v10, .int v11])), (h7, .inl (cy 0, 60, .inl (gi)))] sz) := by
  refine z_of (Qc := fun A => zQi D ((q_X9_type_2 cy h0 h1 h2 h3 h4 h5 h6 h7 h8 h9 v2 v3 v4 v5 v6 v7 v8 v9 v10 v11 gi) n_X9_type_2) A (0)) (by decide +kernel) (Nat.le_of_ble_eq_true rfl) rfl ?_
  intro pG eN sT mI below meth cO A ls C hRT hnm hA hP hD hS hE0 hl
  have hX := C.x
  have hB := C.b
  refine lv_aload_n hX hB dX9_type_0 rfl (lv_at hl 0 rfl) ?_
  refine lv_iload_n hX hB dX9_type_1 rfl (lv_at hl 1 rfl) ?_
  refine lv_bipush (v := 32) hX hB dX9_type_2 (by decide) ?_
  refine lv_bipush (v := 126) hX hB dX9_type_4 (by decide) ?_
  refine z_callSi (isC := []) (isR := [0, 1]) (isO := [0, 1]) (()) (q_X9_in_t ) (fun o_1 => [(h0, .inr (11, [.ref h1, .ref h2, .ref h3, .ref h4, .ref h5, .int v1, .int v2, .int v3, .int v4, .int v5, .ref h6, .int v6, .ref h7, .ref h8, .ref h9, .int v7, .int v8, .int v9, .int v10, .int v11])), (h7, .inl (cy 0, 60, .inl (gi)))]) (fun o_1 => 1) (c_X9_in_t l hE D cy  x i 32 32 126 126 hx (zlit 32) (zlit 126) (by omega) (by omega) (by omega)) hE C zs_X9_127 ⟨Nat.le_of_ble_eq_true rfl, Nat.le_of_ble_eq_true rfl⟩ hP hD hS hA hE0 ⟨rfl, rfl, rfl, by decide, rfl, rfl, rfl⟩ rfl hl.1 (Nat.le_of_ble_eq_true rfl) rfl dX9_type_6 ⟨Nat.le_of_ble_eq_true rfl, Nat.le_of_ble_eq_true rfl⟩ (fun o_1 H locs eo_1 hP hD hS => ?_)
  refine lv_if_ne (tgt := 16) hX hB dX9_type_9 (by decide) (fun _ => ?_) (fun c => absurd c (by decide))
  refine lv_aload_n hX hB dX9_type_16 rfl (lv_at hl 0 rfl) ?_
  refine fg_X9_57 C hP 0 rfl rfl dX9_type_17 ?_
  refine lv_bipush (v := 60) hX hB dX9_type_20 (by decide) ?_
  refine lv_icmp_ne (tgt := 29) hX hB dX9_type_22 (by decide) (fun c => absurd hl60 c) (fun _ => ?_)
  refine lv_iconst (v := 2) hX hB dX9_type_25 (by decide) ?_
  refine lv_goto (tgt := 30) hX hB dX9_type_26 (by decide) ?_
  refine fp_X9_25 C hP hD hS 0 rfl rfl rfl (Nat.le_of_ble_eq_true rfl) (w' := [(h0, .inr (11, [.ref h1, .ref h2, .ref h3, .ref h4, .ref h5, .int 2, .int v2, .int v3, .int v4, .int v5, .ref h6, .int v6, .ref h7, .ref h8, .ref h9, .int v7, .int v8, .int v9, .int v10, .int v11])), (h7, .inl (cy 0, 60, .inl (gi)))]) rfl dX9_type_30 (fun H locs hP hD hS => ?_)
  refine lv_aload_n hX hB dX9_type_33 rfl (lv_at hl 0 rfl) ?_
  refine fg_X9_25 C hP 0 rfl rfl dX9_type_34 ?_
  refine lv_if_le (tgt := 42) hX hB dX9_type_37 (by decide) (fun c => absurd c (by decide)) (fun _ => ?_)
  refine lv_iconst (v := 0) hX hB dX9_type_40 (by decide) ?_
  exact z_iret' 2 (w' := q_X9_type_2 cy h0 h1 h2 h3 h4 h5 h6 h7 h8 h9 v2 v3 v4 v5 v6 v7 v8 v9 v10 v11 gi) (r0 := (fun (o : Int32) => 0)) (by simp only [n_X9_type_2]) C hRT hP hD hS (Nat.le_of_ble_eq_true rfl) (Nat.le_of_ble_eq_true rfl) rfl rfl dX9_type_41

def n_X9_type_1 (x : Int32) : Int32 :=
  let o_1 := n_X9_in x 32 126
  1
def q_X9_type_1 (cy : Nat → ClassId) (h0 : Nat) (h1 : Nat) (h2 : Nat) (h3 : Nat) (h4 : Nat) (h5 : Nat) (h6 : Nat) (h7 : Nat) (h8 : Nat) (h9 : Nat) (v2 : Int32) (v3 : Int32) (v4 : Int32) (v5 : Int32) (v6 : Int32) (v7 : Int32) (v8 : Int32) (v9 : Int32) (v10 : Int32) (v11 : Int32) (gi : Nat → Int32) (o : Int32) : va_W := [(h0, .inr (11, [.ref h1, .ref h2, .ref h3, .ref h4, .ref h5, .int o, .int v2, .int v3, .int v4, .int v5, .ref h6, .int v6, .ref h7, .ref h8, .ref h9, .int v7, .int v8, .int v9, .int v10, .int v11])), (h7, .inl (cy 0, 60, .inl (gi)))]
set_option maxHeartbeats 4000000 in
set_option maxRecDepth 100000 in
theorem c_X9_type_1 (l : Launch) {E : zEn} (hE : zEok E) (D : zG) (cy : Nat → ClassId) (h0 h1 h2 h3 h4 h5 h6 h7 h8 h9 : Nat) (v1 : Int32) (v2 : Int32) (v3 : Int32) (v4 : Int32) (v5 : Int32) (v6 : Int32) (v7 : Int32) (v8 : Int32) (v9 : Int32) (v10 : Int32) (v11 : Int32) (gi : Nat → Int32) (x : Int32) (hin : n_X9_in x 32 126 = 0) (sz : Nat) : Met l yX9_type (zws yX9_type cX9_type 2 (some .int)) { frames := 1, cells := 0, slots := 0, locals := 22 } (zPre E D cy [.ref h0, .int x] [(h0, .inr (11, [.ref h1, .ref h2, .ref h3, .ref h4, .ref h5, .int v1, .int v2, .int v3, .int v4, .int v5, .ref h6, .int v6, .ref h7, .ref h8, .ref h9, .int v7, .int v8, .int v9, .int v10, .int v11])), (h7, .inl (cy 0, 60, .inl (gi)))] sz) (zQi D ((q_X9_type_1 cy h0 h1 h2 h3 h4 h5 h6 h7 h8 h9 v2 v3 v4 v5 v6 v7 v8 v9 v10 v11 gi) (n_X9_type_1 x)) (va_A [(h0, .inr (11, [.ref h1, .ref h2, .ref h3, .ref h4, .ref h5, .int v1, .int v2, .int v3, .int v4, .int v5, .ref h6, .int v6, .ref h7, .ref h8, .ref h9, .int v7, .int v8, .int v9, .int v10, .int v11])), (h7, .inl (cy 0, 60, .inl (gi)))] sz) (0)) 0 0 (va_A [(h0, .inr (11, [.ref h1, .ref h2, .ref h3, .ref h4, .ref h5, .int v1, .int v2, .int v3, .int v4, .int v5, .ref h6, .int v6, .ref h7, .ref h8, .ref h9, .int v7, .int v8, .int v9, .int v10, .int v11])), (h7, .inl (cy 0, 60, .inl (gi)))] sz) := by
  refine z_of (Qc := fun A => zQi D ((q_X9_type_1 cy h0 h1 h2 h3 h4 h5 h6 h7 h8 h9 v2 v3 v4 v5 v6 v7 v8 v9 v10 v11 gi) (n_X9_type_1 x)) A (0)) (by decide +kernel) (Nat.le_of_ble_eq_true rfl) rfl ?_
  intro pG eN sT mI below meth cO A ls C hRT hnm hA hP hD hS hE0 hl
  have hX := C.x
  have hB := C.b
  refine lv_aload_n hX hB dX9_type_0 rfl (lv_at hl 0 rfl) ?_
  refine lv_iload_n hX hB dX9_type_1 rfl (lv_at hl 1 rfl) ?_
  refine lv_bipush (v := 32) hX hB dX9_type_2 (by decide) ?_
  refine lv_bipush (v := 126) hX hB dX9_type_4 (by decide) ?_
  refine z_callSi (isC := []) (isR := [0, 1]) (isO := [0, 1]) (n_X9_in x 32 126) (q_X9_in ) (fun o_1 => [(h0, .inr (11, [.ref h1, .ref h2, .ref h3, .ref h4, .ref h5, .int v1, .int v2, .int v3, .int v4, .int v5, .ref h6, .int v6, .ref h7, .ref h8, .ref h9, .int v7, .int v8, .int v9, .int v10, .int v11])), (h7, .inl (cy 0, 60, .inl (gi)))]) (fun o_1 => o_1) (c_X9_in l hE D cy  x 32 126 ) hE C zs_X9_127 ⟨Nat.le_of_ble_eq_true rfl, Nat.le_of_ble_eq_true rfl⟩ hP hD hS hA hE0 ⟨rfl, rfl, rfl, by decide, rfl, rfl, rfl⟩ rfl hl.1 (Nat.le_of_ble_eq_true rfl) rfl dX9_type_6 ⟨Nat.le_of_ble_eq_true rfl, Nat.le_of_ble_eq_true rfl⟩ (fun o_1 H locs eo_1 hP hD hS => ?_)
  refine lv_if_ne (tgt := 16) hX hB dX9_type_9 (by decide) (fun c => absurd (by rw [eo_1]; exact hin) c) (fun _ => ?_)
  refine lv_iconst (v := 1) hX hB dX9_type_12 (by decide) ?_
  refine lv_goto (tgt := 30) hX hB dX9_type_13 (by decide) ?_
  refine fp_X9_25 C hP hD hS 0 rfl rfl rfl (Nat.le_of_ble_eq_true rfl) (w' := [(h0, .inr (11, [.ref h1, .ref h2, .ref h3, .ref h4, .ref h5, .int 1, .int v2, .int v3, .int v4, .int v5, .ref h6, .int v6, .ref h7, .ref h8, .ref h9, .int v7, .int v8, .int v9, .int v10, .int v11])), (h7, .inl (cy 0, 60, .inl (gi)))]) rfl dX9_type_30 (fun H locs hP hD hS => ?_)
  refine lv_aload_n hX hB dX9_type_33 rfl (lv_at hl 0 rfl) ?_
  refine fg_X9_25 C hP 0 rfl rfl dX9_type_34 ?_
  refine lv_if_le (tgt := 42) hX hB dX9_type_37 (by decide) (fun c => absurd c (by decide)) (fun _ => ?_)
  refine lv_iconst (v := 0) hX hB dX9_type_40 (by decide) ?_
  exact z_iret' 1 (w' := q_X9_type_1 cy h0 h1 h2 h3 h4 h5 h6 h7 h8 h9 v2 v3 v4 v5 v6 v7 v8 v9 v10 v11 gi) (r0 := (fun (o : Int32) => 0)) (by simp only [n_X9_type_1, ← eo_1]) C hRT hP hD hS (Nat.le_of_ble_eq_true rfl) (Nat.le_of_ble_eq_true rfl) rfl rfl dX9_type_41

end M5
