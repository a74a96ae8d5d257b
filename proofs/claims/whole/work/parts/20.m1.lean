section M1
def n_X9_runs (g : Nat → Int32) : Int32 :=
  if g 0 = 1 then
    1
  else
    0
def q_X9_runs (cy : Nat → ClassId) (h0 : Nat) (h1 : Nat) (h2 : Nat) (h3 : Nat) (h4 : Nat) (h5 : Nat) (h6 : Nat) (h7 : Nat) (h8 : Nat) (h9 : Nat) (v1 : Int32) (v2 : Int32) (v3 : Int32) (v4 : Int32) (v5 : Int32) (v6 : Int32) (v7 : Int32) (v8 : Int32) (v9 : Int32) (v10 : Int32) (v11 : Int32) (g : Nat → Int32) (o : Int32) : va_W := [(h0, .inr (11, [.ref h1, .ref h2, .ref h3, .ref h4, .ref h5, .int v1, .int v2, .int v3, .int v4, .int v5, .ref h6, .int v6, .ref h7, .ref h8, .ref h9, .int v7, .int v8, .int v9, .int v10, .int v11])), (h1, .inl (cy 0, 64, .inl (g)))]
theorem b_X9_runs (g : Nat → Int32) : (n_X9_runs g) = 0 ∨ (n_X9_runs g) = 1 := by
  simp only [n_X9_runs]
  repeat (any_goals split)
  all_goals (first | exact Or.inl rfl | exact Or.inr rfl)
set_option maxHeartbeats 4000000 in
set_option maxRecDepth 100000 in
theorem c_X9_runs (l : Launch) {E : zEn} (hE : zEok E) (D : zG) (cy : Nat → ClassId) (h0 h1 h2 h3 h4 h5 h6 h7 h8 h9 : Nat) (v1 : Int32) (v2 : Int32) (v3 : Int32) (v4 : Int32) (v5 : Int32) (v6 : Int32) (v7 : Int32) (v8 : Int32) (v9 : Int32) (v10 : Int32) (v11 : Int32) (g : Nat → Int32)  (sz : Nat) : Met l yX9_runs (zws yX9_runs cX9_runs 1 (some .boolean)) { frames := 0, cells := 0, slots := 0, locals := 0 } (zPre E D cy [.ref h0] [(h0, .inr (11, [.ref h1, .ref h2, .ref h3, .ref h4, .ref h5, .int v1, .int v2, .int v3, .int v4, .int v5, .ref h6, .int v6, .ref h7, .ref h8, .ref h9, .int v7, .int v8, .int v9, .int v10, .int v11])), (h1, .inl (cy 0, 64, .inl (g)))] sz) (zQi D ((q_X9_runs cy h0 h1 h2 h3 h4 h5 h6 h7 h8 h9 v1 v2 v3 v4 v5 v6 v7 v8 v9 v10 v11 g) (n_X9_runs g)) (va_A [(h0, .inr (11, [.ref h1, .ref h2, .ref h3, .ref h4, .ref h5, .int v1, .int v2, .int v3, .int v4, .int v5, .ref h6, .int v6, .ref h7, .ref h8, .ref h9, .int v7, .int v8, .int v9, .int v10, .int v11])), (h1, .inl (cy 0, 64, .inl (g)))] sz) ((n_X9_runs g))) 0 0 (va_A [(h0, .inr (11, [.ref h1, .ref h2, .ref h3, .ref h4, .ref h5, .int v1, .int v2, .int v3, .int v4, .int v5, .ref h6, .int v6, .ref h7, .ref h8, .ref h9, .int v7, .int v8, .int v9, .int v10, .int v11])), (h1, .inl (cy 0, 64, .inl (g)))] sz) := by
  refine z_of (Qc := fun A => zQi D ((q_X9_runs cy h0 h1 h2 h3 h4 h5 h6 h7 h8 h9 v1 v2 v3 v4 v5 v6 v7 v8 v9 v10 v11 g) (n_X9_runs g)) A ((n_X9_runs g))) (by decide +kernel) (Nat.le_of_ble_eq_true rfl) rfl ?_
  intro pG eN sT mI below meth cO A ls C hRT hnm hA hP hD hS hE0 hl
  have hX := C.x
  have hB := C.b
  refine lv_aload_n hX hB dX9_runs_0 rfl (lv_at hl 0 rfl) ?_
  refine fg_X9_7 C hP 0 rfl rfl dX9_runs_1 ?_
  refine lv_iconst (v := 0) hX hB dX9_runs_4 (by decide) ?_
  refine z_iald C hP 1 rfl (k := 0) (zlit 0) (by decide) (by decide) (v := g 0) rfl dX9_runs_5 ?_
  refine lv_iconst (v := 1) hX hB dX9_runs_6 (by decide) ?_
  refine lv_icmp_ne (tgt := 14) hX hB dX9_runs_7 (by decide) (fun c_1 => ?_) (fun c_1 => ?_)
  · refine lv_iconst (v := 0) hX hB dX9_runs_14 (by decide) ?_
    exact z_zret' 0 (w' := q_X9_runs cy h0 h1 h2 h3 h4 h5 h6 h7 h8 h9 v1 v2 v3 v4 v5 v6 v7 v8 v9 v10 v11 g) (r0 := (fun (o : Int32) => o)) (by simp only [n_X9_runs, if_neg c_1]) C hRT (zb01 (Or.inl rfl)) hP hD hS (Nat.le_of_ble_eq_true rfl) (Nat.le_of_ble_eq_true rfl) rfl rfl dX9_runs_15
  · refine lv_iconst (v := 1) hX hB dX9_runs_10 (by decide) ?_
    refine lv_goto (tgt := 15) hX hB dX9_runs_11 (by decide) ?_
    exact z_zret' 1 (w' := q_X9_runs cy h0 h1 h2 h3 h4 h5 h6 h7 h8 h9 v1 v2 v3 v4 v5 v6 v7 v8 v9 v10 v11 g) (r0 := (fun (o : Int32) => o)) (by simp only [n_X9_runs, if_pos c_1]) C hRT (zb01 (Or.inr rfl)) hP hD hS (Nat.le_of_ble_eq_true rfl) (Nat.le_of_ble_eq_true rfl) rfl rfl dX9_runs_15

def q_X9_runs_t (cy : Nat → ClassId) (h0 : Nat) (h1 : Nat) (h2 : Nat) (h3 : Nat) (h4 : Nat) (h5 : Nat) (h6 : Nat) (h7 : Nat) (h8 : Nat) (h9 : Nat) (v1 : Int32) (v2 : Int32) (v3 : Int32) (v4 : Int32) (v5 : Int32) (v6 : Int32) (v7 : Int32) (v8 : Int32) (v9 : Int32) (v10 : Int32) (v11 : Int32) (g : Nat → Int32) (o : Unit) : va_W := [(h0, .inr (11, [.ref h1, .ref h2, .ref h3, .ref h4, .ref h5, .int v1, .int v2, .int v3, .int v4, .int v5, .ref h6, .int v6, .ref h7, .ref h8, .ref h9, .int v7, .int v8, .int v9, .int v10, .int v11])), (h1, .inl (cy 0, 64, .inl (g)))]
set_option maxHeartbeats 4000000 in
set_option maxRecDepth 100000 in
theorem c_X9_runs_t (l : Launch) {E : zEn} (hE : zEok E) (D : zG) (cy : Nat → ClassId) (h0 h1 h2 h3 h4 h5 h6 h7 h8 h9 : Nat) (v1 : Int32) (v2 : Int32) (v3 : Int32) (v4 : Int32) (v5 : Int32) (v6 : Int32) (v7 : Int32) (v8 : Int32) (v9 : Int32) (v10 : Int32) (v11 : Int32) (g : Nat → Int32) (hr : g 0 = 1) (sz : Nat) : Met l yX9_runs (zws yX9_runs cX9_runs 1 (some .boolean)) { frames := 0, cells := 0, slots := 0, locals := 0 } (zPre E D cy [.ref h0] [(h0, .inr (11, [.ref h1, .ref h2, .ref h3, .ref h4, .ref h5, .int v1, .int v2, .int v3, .int v4, .int v5, .ref h6, .int v6, .ref h7, .ref h8, .ref h9, .int v7, .int v8, .int v9, .int v10, .int v11])), (h1, .inl (cy 0, 64, .inl (g)))] sz) (zQi D ((q_X9_runs_t cy h0 h1 h2 h3 h4 h5 h6 h7 h8 h9 v1 v2 v3 v4 v5 v6 v7 v8 v9 v10 v11 g) ()) (va_A [(h0, .inr (11, [.ref h1, .ref h2, .ref h3, .ref h4, .ref h5, .int v1, .int v2, .int v3, .int v4, .int v5, .ref h6, .int v6, .ref h7, .ref h8, .ref h9, .int v7, .int v8, .int v9, .int v10, .int v11])), (h1, .inl (cy 0, 64, .inl (g)))] sz) (1)) 0 0 (va_A [(h0, .inr (11, [.ref h1, .ref h2, .ref h3, .ref h4, .ref h5, .int v1, .int v2, .int v3, .int v4, .int v5, .ref h6, .int v6, .ref h7, .ref h8, .ref h9, .int v7, .int v8, .int v9, .int v10, .int v11])), (h1, .inl (cy 0, 64, .inl (g)))] sz) := by
  refine z_of (Qc := fun A => zQi D ((q_X9_runs_t cy h0 h1 h2 h3 h4 h5 h6 h7 h8 h9 v1 v2 v3 v4 v5 v6 v7 v8 v9 v10 v11 g) ()) A (1)) (by decide +kernel) (Nat.le_of_ble_eq_true rfl) rfl ?_
  intro pG eN sT mI below meth cO A ls C hRT hnm hA hP hD hS hE0 hl
  have hX := C.x
  have hB := C.b
  refine lv_aload_n hX hB dX9_runs_0 rfl (lv_at hl 0 rfl) ?_
  refine fg_X9_7 C hP 0 rfl rfl dX9_runs_1 ?_
  refine lv_iconst (v := 0) hX hB dX9_runs_4 (by decide) ?_
  refine z_iald C hP 1 rfl (k := 0) (zlit 0) (by decide) (by decide) (v := g 0) rfl dX9_runs_5 ?_
  refine lv_iconst (v := 1) hX hB dX9_runs_6 (by decide) ?_
  refine lv_icmp_ne (tgt := 14) hX hB dX9_runs_7 (by decide) (fun c => absurd hr c) (fun _ => ?_)
  refine lv_iconst (v := 1) hX hB dX9_runs_10 (by decide) ?_
  refine lv_goto (tgt := 15) hX hB dX9_runs_11 (by decide) ?_
  exact z_zret' () (w' := q_X9_runs_t cy h0 h1 h2 h3 h4 h5 h6 h7 h8 h9 v1 v2 v3 v4 v5 v6 v7 v8 v9 v10 v11 g) (r0 := (fun (o : Unit) => 1)) rfl C hRT (zb01 (Or.inr rfl)) hP hD hS (Nat.le_of_ble_eq_true rfl) (Nat.le_of_ble_eq_true rfl) rfl rfl dX9_runs_15

def q_X9_runs_f (cy : Nat → ClassId) (h0 : Nat) (h1 : Nat) (h2 : Nat) (h3 : Nat) (h4 : Nat) (h5 : Nat) (h6 : Nat) (h7 : Nat) (h8 : Nat) (h9 : Nat) (v1 : Int32) (v2 : Int32) (v3 : Int32) (v4 : Int32) (v5 : Int32) (v6 : Int32) (v7 : Int32) (v8 : Int32) (v9 : Int32) (v10 : Int32) (v11 : Int32) (g : Nat → Int32) (o : Unit) : va_W := [(h0, .inr (11, [.ref h1, .ref h2, .ref h3, .ref h4, .ref h5, .int v1, .int v2, .int v3, .int v4, .int v5, .ref h6, .int v6, .ref h7, .ref h8, .ref h9, .int v7, .int v8, .int v9, .int v10, .int v11])), (h1, .inl (cy 0, 64, .inl (g)))]
set_option maxHeartbeats 4000000 in
set_option maxRecDepth 100000 in
theorem c_X9_runs_f (l : Launch) {E : zEn} (hE : zEok E) (D : zG) (cy : Nat → ClassId) (h0 h1 h2 h3 h4 h5 h6 h7 h8 h9 : Nat) (v1 : Int32) (v2 : Int32) (v3 : Int32) (v4 : Int32) (v5 : Int32) (v6 : Int32) (v7 : Int32) (v8 : Int32) (v9 : Int32) (v10 : Int32) (v11 : Int32) (g : Nat → Int32) (hr : ¬ g 0 = 1) (sz : Nat) : Met l yX9_runs (zws yX9_runs cX9_runs 1 (some .boolean)) { frames := 0, cells := 0, slots := 0, locals := 0 } (zPre E D cy [.ref h0] [(h0, .inr (11, [.ref h1, .ref h2, .ref h3, .ref h4, .ref h5, .int v1, .int v2, .int v3, .int v4, .int v5, .ref h6, .int v6, .ref h7, .ref h8, .ref h9, .int v7, .int v8, .int v9, .int v10, .int v11])), (h1, .inl (cy 0, 64, .inl (g)))] sz) (zQi D ((q_X9_runs_f cy h0 h1 h2 h3 h4 h5 h6 h7 h8 h9 v1 v2 v3 v4 v5 v6 v7 v8 v9 v10 v11 g) ()) (va_A [(h0, .inr (11, [.ref h1, .ref h2, .ref h3, .ref h4, .ref h5, .int v1, .int v2, .int v3, .int v4, .int v5, .ref h6, .int v6, .ref h7, .ref h8, .ref h9, .int v7, .int v8, .int v9, .int v10, .int v11])), (h1, .inl (cy 0, 64, .inl (g)))] sz) (0)) 0 0 (va_A [(h0, .inr (11, [.ref h1, .ref h2, .ref h3, .ref h4, .ref h5, .int v1, .int v2, .int v3, .int v4, .int v5, .ref h6, .int v6, .ref h7, .ref h8, .ref h9, .int v7, .int v8, .int v9, .int v10, .int v11])), (h1, .inl (cy 0, 64, .inl (g)))] sz) := by
  refine z_of (Qc := fun A => zQi D ((q_X9_runs_f cy h0 h1 h2 h3 h4 h5 h6 h7 h8 h9 v1 v2 v3 v4 v5 v6 v7 v8 v9 v10 v11 g) ()) A (0)) (by decide +kernel) (Nat.le_of_ble_eq_true rfl) rfl ?_
  intro pG eN sT mI below meth cO A ls C hRT hnm hA hP hD hS hE0 hl
  have hX := C.x
  have hB := C.b
  refine lv_aload_n hX hB dX9_runs_0 rfl (lv_at hl 0 rfl) ?_
  refine fg_X9_7 C hP 0 rfl rfl dX9_runs_1 ?_
  refine lv_iconst (v := 0) hX hB dX9_runs_4 (by decide) ?_
  refine z_iald C hP 1 rfl (k := 0) (zlit 0) (by decide) (by decide) (v := g 0) rfl dX9_runs_5 ?_
  refine lv_iconst (v := 1) hX hB dX9_runs_6 (by decide) ?_
  refine lv_icmp_ne (tgt := 14) hX hB dX9_runs_7 (by decide) (fun _ => ?_) (fun c => absurd c hr)
  refine lv_iconst (v := 0) hX hB dX9_runs_14 (by decide) ?_
  exact z_zret' () (w' := q_X9_runs_f cy h0 h1 h2 h3 h4 h5 h6 h7 h8 h9 v1 v2 v3 v4 v5 v6 v7 v8 v9 v10 v11 g) (r0 := (fun (o : Unit) => 0)) rfl C hRT (zb01 (Or.inl rfl)) hP hD hS (Nat.le_of_ble_eq_true rfl) (Nat.le_of_ble_eq_true rfl) rfl rfl dX9_runs_15

def n_X9_isTilt (g : Nat → Int32) : Int32 :=
  if g 11 = 1 then
    1
  else
    0
def q_X9_isTilt (cy : Nat → ClassId) (h0 : Nat) (h1 : Nat) (h2 : Nat) (h3 : Nat) (h4 : Nat) (h5 : Nat) (h6 : Nat) (h7 : Nat) (h8 : Nat) (h9 : Nat) (v1 : Int32) (v2 : Int32) (v3 : Int32) (v4 : Int32) (v5 : Int32) (v6 : Int32) (v7 : Int32) (v8 : Int32) (v9 : Int32) (v10 : Int32) (v11 : Int32) (g : Nat → Int32) (o : Int32) : va_W := [(h0, .inr (11, [.ref h1, .ref h2, .ref h3, .ref h4, .ref h5, .int v1, .int v2, .int v3, .int v4, .int v5, .ref h6, .int v6, .ref h7, .ref h8, .ref h9, .int v7, .int v8, .int v9, .int v10, .int v11])), (h1, .inl (cy 0, 64, .inl (g)))]
theorem b_X9_isTilt (g : Nat → Int32) : (n_X9_isTilt g) = 0 ∨ (n_X9_isTilt g) = 1 := by
  simp only [n_X9_isTilt]
  repeat (any_goals split)
  all_goals (first | exact Or.inl rfl | exact Or.inr rfl)
set_option maxHeartbeats 4000000 in
set_option maxRecDepth 100000 in
theorem c_X9_isTilt (l : Launch) {E : zEn} (hE : zEok E) (D : zG) (cy : Nat → ClassId) (h0 h1 h2 h3 h4 h5 h6 h7 h8 h9 : Nat) (v1 : Int32) (v2 : Int32) (v3 : Int32) (v4 : Int32) (v5 : Int32) (v6 : Int32) (v7 : Int32) (v8 : Int32) (v9 : Int32) (v10 : Int32) (v11 : Int32) (g : Nat → Int32)  (sz : Nat) : Met l yX9_isTilt (zws yX9_isTilt cX9_isTilt 1 (some .boolean)) { frames := 0, cells := 0, slots := 0, locals := 0 } (zPre E D cy [.ref h0] [(h0, .inr (11, [.ref h1, .ref h2, .ref h3, .ref h4, .ref h5, .int v1, .int v2, .int v3, .int v4, .int v5, .ref h6, .int v6, .ref h7, .ref h8, .ref h9, .int v7, .int v8, .int v9, .int v10, .int v11])), (h1, .inl (cy 0, 64, .inl (g)))] sz) (zQi D ((q_X9_isTilt cy h0 h1 h2 h3 h4 h5 h6 h7 h8 h9 v1 v2 v3 v4 v5 v6 v7 v8 v9 v10 v11 g) (n_X9_isTilt g)) (va_A [(h0, .inr (11, [.ref h1, .ref h2, .ref h3, .ref h4, .ref h5, .int v1, .int v2, .int v3, .int v4, .int v5, .ref h6, .int v6, .ref h7, .ref h8, .ref h9, .int v7, .int v8, .int v9, .int v10, .int v11])), (h1, .inl (cy 0, 64, .inl (g)))] sz) ((n_X9_isTilt g))) 0 0 (va_A [(h0, .inr (11, [.ref h1, .ref h2, .ref h3, .ref h4, .ref h5, .int v1, .int v2, .int v3, .int v4, .int v5, .ref h6, .int v6, .ref h7, .ref h8, .ref h9, .int v7, .int v8, .int v9, .int v10, .int v11])), (h1, .inl (cy 0, 64, .inl (g)))] sz) := by
  refine z_of (Qc := fun A => zQi D ((q_X9_isTilt cy h0 h1 h2 h3 h4 h5 h6 h7 h8 h9 v1 v2 v3 v4 v5 v6 v7 v8 v9 v10 v11 g) (n_X9_isTilt g)) A ((n_X9_isTilt g))) (by decide +kernel) (Nat.le_of_ble_eq_true rfl) rfl ?_
  intro pG eN sT mI below meth cO A ls C hRT hnm hA hP hD hS hE0 hl
  have hX := C.x
  have hB := C.b
  refine lv_aload_n hX hB dX9_isTilt_0 rfl (lv_at hl 0 rfl) ?_
  refine fg_X9_7 C hP 0 rfl rfl dX9_isTilt_1 ?_
  refine lv_bipush (v := 11) hX hB dX9_isTilt_4 (by decide) ?_
  refine z_iald C hP 1 rfl (k := 11) (zlit 11) (by decide) (by decide) (v := g 11) rfl dX9_isTilt_6 ?_
  refine lv_iconst (v := 1) hX hB dX9_isTilt_7 (by decide) ?_
  refine lv_icmp_ne (tgt := 15) hX hB dX9_isTilt_8 (by decide) (fun c_1 => ?_) (fun c_1 => ?_)
  · refine lv_iconst (v := 0) hX hB dX9_isTilt_15 (by decide) ?_
    exact z_zret' 0 (w' := q_X9_isTilt cy h0 h1 h2 h3 h4 h5 h6 h7 h8 h9 v1 v2 v3 v4 v5 v6 v7 v8 v9 v10 v11 g) (r0 := (fun (o : Int32) => o)) (by simp only [n_X9_isTilt, if_neg c_1]) C hRT (zb01 (Or.inl rfl)) hP hD hS (Nat.le_of_ble_eq_true rfl) (Nat.le_of_ble_eq_true rfl) rfl rfl dX9_isTilt_16
  · refine lv_iconst (v := 1) hX hB dX9_isTilt_11 (by decide) ?_
    refine lv_goto (tgt := 16) hX hB dX9_isTilt_12 (by decide) ?_
    exact z_zret' 1 (w' := q_X9_isTilt cy h0 h1 h2 h3 h4 h5 h6 h7 h8 h9 v1 v2 v3 v4 v5 v6 v7 v8 v9 v10 v11 g) (r0 := (fun (o : Int32) => o)) (by simp only [n_X9_isTilt, if_pos c_1]) C hRT (zb01 (Or.inr rfl)) hP hD hS (Nat.le_of_ble_eq_true rfl) (Nat.le_of_ble_eq_true rfl) rfl rfl dX9_isTilt_16

def q_X9_isTilt_t (cy : Nat → ClassId) (h0 : Nat) (h1 : Nat) (h2 : Nat) (h3 : Nat) (h4 : Nat) (h5 : Nat) (h6 : Nat) (h7 : Nat) (h8 : Nat) (h9 : Nat) (v1 : Int32) (v2 : Int32) (v3 : Int32) (v4 : Int32) (v5 : Int32) (v6 : Int32) (v7 : Int32) (v8 : Int32) (v9 : Int32) (v10 : Int32) (v11 : Int32) (g : Nat → Int32) (o : Unit) : va_W := [(h0, .inr (11, [.ref h1, .ref h2, .ref h3, .ref h4, .ref h5, .int v1, .int v2, .int v3, .int v4, .int v5, .ref h6, .int v6, .ref h7, .ref h8, .ref h9, .int v7, .int v8, .int v9, .int v10, .int v11])), (h1, .inl (cy 0, 64, .inl (g)))]
set_option maxHeartbeats 4000000 in
set_option maxRecDepth 100000 in
theorem c_X9_isTilt_t (l : Launch) {E : zEn} (hE : zEok E) (D : zG) (cy : Nat → ClassId) (h0 h1 h2 h3 h4 h5 h6 h7 h8 h9 : Nat) (v1 : Int32) (v2 : Int32) (v3 : Int32) (v4 : Int32) (v5 : Int32) (v6 : Int32) (v7 : Int32) (v8 : Int32) (v9 : Int32) (v10 : Int32) (v11 : Int32) (g : Nat → Int32) (hr : g 11 = 1) (sz : Nat) : Met l yX9_isTilt (zws yX9_isTilt cX9_isTilt 1 (some .boolean)) { frames := 0, cells := 0, slots := 0, locals := 0 } (zPre E D cy [.ref h0] [(h0, .inr (11, [.ref h1, .ref h2, .ref h3, .ref h4, .ref h5, .int v1, .int v2, .int v3, .int v4, .int v5, .ref h6, .int v6, .ref h7, .ref h8, .ref h9, .int v7, .int v8, .int v9, .int v10, .int v11])), (h1, .inl (cy 0, 64, .inl (g)))] sz) (zQi D ((q_X9_isTilt_t cy h0 h1 h2 h3 h4 h5 h6 h7 h8 h9 v1 v2 v3 v4 v5 v6 v7 v8 v9 v10 v11 g) ()) (va_A [(h0, .inr (11, [.ref h1, .ref h2, .ref h3, .ref h4, .ref h5, .int v1, .int v2, .int v3, .int v4, .int v5, .ref h6, .int v6, .ref h7, .ref h8, .ref h9, .int v7, .int v8, .int v9, .int v10, .int v11])), (h1, .inl (cy 0, 64, .inl (g)))] sz) (1)) 0 0 (va_A [(h0, .inr (11, [.ref h1, .ref h2, .ref h3, .ref h4, .ref h5, .int v1, .int v2, .int v3, .int v4, .int v5, .ref h6, .int v6, .ref h7, .ref h8, .ref h9, .int v7, .int v8, .int v9, .int v10, .int v11])), (h1, .inl (cy 0, 64, .inl (g)))] sz) := by
  refine z_of (Qc := fun A => zQi D ((q_X9_isTilt_t cy h0 h1 h2 h3 h4 h5 h6 h7 h8 h9 v1 v2 v3 v4 v5 v6 v7 v8 v9 v10 v11 g) ()) A (1)) (by decide +kernel) (Nat.le_of_ble_eq_true rfl) rfl ?_
  intro pG eN sT mI below meth cO A ls C hRT hnm hA hP hD hS hE0 hl
  have hX := C.x
  have hB := C.b
  refine lv_aload_n hX hB dX9_isTilt_0 rfl (lv_at hl 0 rfl) ?_
  refine fg_X9_7 C hP 0 rfl rfl dX9_isTilt_1 ?_
  refine lv_bipush (v := 11) hX hB dX9_isTilt_4 (by decide) ?_
  refine z_iald C hP 1 rfl (k := 11) (zlit 11) (by decide) (by decide) (v := g 11) rfl dX9_isTilt_6 ?_
  refine lv_iconst (v := 1) hX hB dX9_isTilt_7 (by decide) ?_
  refine lv_icmp_ne (tgt := 15) hX hB dX9_isTilt_8 (by decide) (fun c => absurd hr c) (fun _ => ?_)
  refine lv_iconst (v := 1) hX hB dX9_isTilt_11 (by decide) ?_
  refine lv_goto (tgt := 16) hX hB dX9_isTilt_12 (by decide) ?_
  exact z_zret' () (w' := q_X9_isTilt_t cy h0 h1 h2 h3 h4 h5 h6 h7 h8 h9 v1 v2 v3 v4 v5 v6 v7 v8 v9 v10 v11 g) (r0 := (fun (o : Unit) => 1)) rfl C hRT (zb01 (Or.inr rfl)) hP hD hS (Nat.le_of_ble_eq_true rfl) (Nat.le_of_ble_eq_true rfl) rfl rfl dX9_isTilt_16

def q_X9_isTilt_f (cy : Nat → ClassId) (h0 : Nat) (h1 : Nat) (h2 : Nat) (h3 : Nat) (h4 : Nat) (h5 : Nat) (h6 : Nat) (h7 : Nat) (h8 : Nat) (h9 : Nat) (v1 : Int32) (v2 : Int32) (v3 : Int32) (v4 : Int32) (v5 : Int32) (v6 : Int32) (v7 : Int32) (v8 : Int32) (v9 : Int32) (v10 : Int32) (v11 : Int32) (g : Nat → Int32) (o : Unit) : va_W := [(h0, .inr (11, [.ref h1, .ref h2, .ref h3, .ref h4, .ref h5, .int v1, .int v2, .int v3, .int v4, .int v5, .ref h6, .int v6, .ref h7, .ref h8, .ref h9, .int v7, .int v8, .int v9, .int v10, .int v11])), (h1, .inl (cy 0, 64, .inl (g)))]
set_option maxHeartbeats 4000000 in
set_option maxRecDepth 100000 in
theorem c_X9_isTilt_f (l : Launch) {E : zEn} (hE : zEok E) (D : zG) (cy : Nat → ClassId) (h0 h1 h2 h3 h4 h5 h6 h7 h8 h9 : Nat) (v1 : Int32) (v2 : Int32) (v3 : Int32) (v4 : Int32) (v5 : Int32) (v6 : Int32) (v7 : Int32) (v8 : Int32) (v9 : Int32) (v10 : Int32) (v11 : Int32) (g : Nat → Int32) (hr : ¬ g 11 = 1) (sz : Nat) : Met l yX9_isTilt (zws yX9_isTilt cX9_isTilt 1 (some .boolean)) { frames := 0, cells := 0, slots := 0, locals := 0 } (zPre E D cy [.ref h0] [(h0, .inr (11, [.ref h1, .ref h2, .ref h3, .ref h4, .ref h5, .int v1, .int v2, .int v3, .int v4, .int v5, .ref h6, .int v6, .ref h7, .ref h8, .ref h9, .int v7, .int v8, .int v9, .int v10, .int v11])), (h1, .inl (cy 0, 64, .inl (g)))] sz) (zQi D ((q_X9_isTilt_f cy h0 h1 h2 h3 h4 h5 h6 h7 h8 h9 v1 v2 v3 v4 v5 v6 v7 v8 v9 v10 v11 g) ()) (va_A [(h0, .inr (11, [.ref h1, .ref h2, .ref h3, .ref h4, .ref h5, .int v1, .int v2, .int v3, .int v4, .int v5, .ref h6, .int v6, .ref h7, .ref h8, .ref h9, .int v7, .int v8, .int v9, .int v10, .int v11])), (h1, .inl (cy 0, 64, .inl (g)))] sz) (0)) 0 0 (va_A [(h0, .inr (11, [.ref h1, .ref h2, .ref h3, .ref h4, .ref h5, .int v1, .int v2, .int v3, .int v4, .int v5, .ref h6, .int v6, .ref h7, .ref h8, .ref h9, .int v7, .int v8, .int v9, .int v10, .int v11])), (h1, .inl (cy 0, 64, .inl (g)))] sz) := by
  refine z_of (Qc := fun A => zQi D ((q_X9_isTilt_f cy h0 h1 h2 h3 h4 h5 h6 h7 h8 h9 v1 v2 v3 v4 v5 v6 v7 v8 v9 v10 v11 g) ()) A (0)) (by decide +kernel) (Nat.le_of_ble_eq_true rfl) rfl ?_
  intro pG eN sT mI below meth cO A ls C hRT hnm hA hP hD hS hE0 hl
  have hX := C.x
  have hB := C.b
  refine lv_aload_n hX hB dX9_isTilt_0 rfl (lv_at hl 0 rfl) ?_
  refine fg_X9_7 C hP 0 rfl rfl dX9_isTilt_1 ?_
  refine lv_bipush (v := 11) hX hB dX9_isTilt_4 (by decide) ?_
  refine z_iald C hP 1 rfl (k := 11) (zlit 11) (by decide) (by decide) (v := g 11) rfl dX9_isTilt_6 ?_
  refine lv_iconst (v := 1) hX hB dX9_isTilt_7 (by decide) ?_
  refine lv_icmp_ne (tgt := 15) hX hB dX9_isTilt_8 (by decide) (fun _ => ?_) (fun c => absurd c hr)
  refine lv_iconst (v := 0) hX hB dX9_isTilt_15 (by decide) ?_
  exact z_zret' () (w' := q_X9_isTilt_f cy h0 h1 h2 h3 h4 h5 h6 h7 h8 h9 v1 v2 v3 v4 v5 v6 v7 v8 v9 v10 v11 g) (r0 := (fun (o : Unit) => 0)) rfl C hRT (zb01 (Or.inl rfl)) hP hD hS (Nat.le_of_ble_eq_true rfl) (Nat.le_of_ble_eq_true rfl) rfl rfl dX9_isTilt_16

def n_X9_fail (x : Int32) : Int32 :=
  x
def q_X9_fail (h0 : Nat) (h1 : Nat) (h2 : Nat) (h3 : Nat) (h4 : Nat) (h5 : Nat) (h6 : Nat) (h7 : Nat) (h8 : Nat) (h9 : Nat) (v2 : Int32) (v3 : Int32) (v4 : Int32) (v5 : Int32) (v6 : Int32) (v7 : Int32) (v8 : Int32) (v9 : Int32) (v10 : Int32) (v11 : Int32) (o : Int32) : va_W := [(h0, .inr (11, [.ref h1, .ref h2, .ref h3, .ref h4, .ref h5, .int o, .int v2, .int v3, .int v4, .int v5, .ref h6, .int v6, .ref h7, .ref h8, .ref h9, .int v7, .int v8, .int v9, .int v10, .int v11]))]
set_option maxHeartbeats 4000000 in
set_option maxRecDepth 100000 in
theorem c_X9_fail (l : Launch) {E : zEn} (hE : zEok E) (D : zG) (cy : Nat → ClassId) (h0 h1 h2 h3 h4 h5 h6 h7 h8 h9 : Nat) (v1 : Int32) (v2 : Int32) (v3 : Int32) (v4 : Int32) (v5 : Int32) (v6 : Int32) (v7 : Int32) (v8 : Int32) (v9 : Int32) (v10 : Int32) (v11 : Int32) (x : Int32)  (sz : Nat) : Met l yX9_fail (zws yX9_fail cX9_fail 2 (some .int)) { frames := 0, cells := 0, slots := 0, locals := 0 } (zPre E D cy [.ref h0, .int x] [(h0, .inr (11, [.ref h1, .ref h2, .ref h3, .ref h4, .ref h5, .int v1, .int v2, .int v3, .int v4, .int v5, .ref h6, .int v6, .ref h7, .ref h8, .ref h9, .int v7, .int v8, .int v9, .int v10, .int v11]))] sz) (zQi D ((q_X9_fail h0 h1 h2 h3 h4 h5 h6 h7 h8 h9 v2 v3 v4 v5 v6 v7 v8 v9 v10 v11) (n_X9_fail x)) (va_A [(h0, .inr (11, [.ref h1, .ref h2, .ref h3, .ref h4, .ref h5, .int v1, .int v2, .int v3, .int v4, .int v5, .ref h6, .int v6, .ref h7, .ref h8, .ref h9, .int v7, .int v8, .int v9, .int v10, .int v11]))] sz) (0)) 0 0 (va_A [(h0, .inr (11, [.ref h1, .ref h2, .ref h3, .ref h4, .ref h5, .int v1, .int v2, .int v3, .int v4, .int v5, .ref h6, .int v6, .ref h7, .ref h8, .ref h9, .int v7, .int v8, .int v9, .int v10, .int v11]))] sz) := by
  refine z_of (Qc := fun A => zQi D ((q_X9_fail h0 h1 h2 h3 h4 h5 h6 h7 h8 h9 v2 v3 v4 v5 v6 v7 v8 v9 v10 v11) (n_X9_fail x)) A (0)) (by decide +kernel) (Nat.le_of_ble_eq_true rfl) rfl ?_
  intro pG eN sT mI below meth cO A ls C hRT hnm hA hP hD hS hE0 hl
  have hX := C.x
  have hB := C.b
  refine lv_aload_n hX hB dX9_fail_0 rfl (lv_at hl 0 rfl) ?_
  refine lv_iload_n hX hB dX9_fail_1 rfl (lv_at hl 1 rfl) ?_
  refine fp_X9_25 C hP hD hS 0 rfl rfl rfl (Nat.le_of_ble_eq_true rfl) (w' := [(h0, .inr (11, [.ref h1, .ref h2, .ref h3, .ref h4, .ref h5, .int x, .int v2, .int v3, .int v4, .int v5, .ref h6, .int v6, .ref h7, .ref h8, .ref h9, .int v7, .int v8, .int v9, .int v10, .int v11]))]) rfl dX9_fail_2 (fun H locs hP hD hS => ?_)
  refine lv_iconst (v := 0) hX hB dX9_fail_5 (by decide) ?_
  exact z_iret' x (w' := q_X9_fail h0 h1 h2 h3 h4 h5 h6 h7 h8 h9 v2 v3 v4 v5 v6 v7 v8 v9 v10 v11) (r0 := (fun (o : Int32) => 0)) (by simp only [n_X9_fail]) C hRT hP hD hS (Nat.le_of_ble_eq_true rfl) (Nat.le_of_ble_eq_true rfl) rfl rfl dX9_fail_6

def q_X9_cannotAdd_ok (cy : Nat → ClassId) (h0 : Nat) (h1 : Nat) (h2 : Nat) (h3 : Nat) (h4 : Nat) (h5 : Nat) (h6 : Nat) (h7 : Nat) (h8 : Nat) (h9 : Nat) (v1 : Int32) (v2 : Int32) (v3 : Int32) (v4 : Int32) (v5 : Int32) (v6 : Int32) (v7 : Int32) (v8 : Int32) (v9 : Int32) (v10 : Int32) (v11 : Int32) (g : Nat → Int32) (o : Unit) : va_W := [(h0, .inr (11, [.ref h1, .ref h2, .ref h3, .ref h4, .ref h5, .int v1, .int v2, .int v3, .int v4, .int v5, .ref h6, .int v6, .ref h7, .ref h8, .ref h9, .int v7, .int v8, .int v9, .int v10, .int v11])), (h1, .inl (cy 0, 64, .inl (g)))]
set_option maxHeartbeats 4000000 in
set_option maxRecDepth 100000 in
theorem c_X9_cannotAdd_ok (l : Launch) {E : zEn} (hE : zEok E) (D : zG) (cy : Nat → ClassId) (h0 h1 h2 h3 h4 h5 h6 h7 h8 h9 : Nat) (v1 : Int32) (v2 : Int32) (v3 : Int32) (v4 : Int32) (v5 : Int32) (v6 : Int32) (v7 : Int32) (v8 : Int32) (v9 : Int32) (v10 : Int32) (v11 : Int32) (g : Nat → Int32) (hr : ¬ g 0 = 1) (hq : ¬ g 2 = 4) (sz : Nat) : Met l yX9_cannotAdd (zws yX9_cannotAdd cX9_cannotAdd 1 (some .int)) { frames := 1, cells := 0, slots := 0, locals := 20 } (zPre E D cy [.ref h0] [(h0, .inr (11, [.ref h1, .ref h2, .ref h3, .ref h4, .ref h5, .int v1, .int v2, .int v3, .int v4, .int v5, .ref h6, .int v6, .ref h7, .ref h8, .ref h9, .int v7, .int v8, .int v9, .int v10, .int v11])), (h1, .inl (cy 0, 64, .inl (g)))] sz) (zQi D ((q_X9_cannotAdd_ok cy h0 h1 h2 h3 h4 h5 h6 h7 h8 h9 v1 v2 v3 v4 v5 v6 v7 v8 v9 v10 v11 g) ()) (va_A [(h0, .inr (11, [.ref h1, .ref h2, .ref h3, .ref h4, .ref h5, .int v1, .int v2, .int v3, .int v4, .int v5, .ref h6, .int v6, .ref h7, .ref h8, .ref h9, .int v7, .int v8, .int v9, .int v10, .int v11])), (h1, .inl (cy 0, 64, .inl (g)))] sz) (0)) 0 0 (va_A [(h0, .inr (11, [.ref h1, .ref h2, .ref h3, .ref h4, .ref h5, .int v1, .int v2, .int v3, .int v4, .int v5, .ref h6, .int v6, .ref h7, .ref h8, .ref h9, .int v7, .int v8, .int v9, .int v10, .int v11])), (h1, .inl (cy 0, 64, .inl (g)))] sz) := by
  refine z_of (Qc := fun A => zQi D ((q_X9_cannotAdd_ok cy h0 h1 h2 h3 h4 h5 h6 h7 h8 h9 v1 v2 v3 v4 v5 v6 v7 v8 v9 v10 v11 g) ()) A (0)) (by decide +kernel) (Nat.le_of_ble_eq_true rfl) rfl ?_
  intro pG eN sT mI below meth cO A ls C hRT hnm hA hP hD hS hE0 hl
  have hX := C.x
  have hB := C.b
  refine lv_aload_n hX hB dX9_cannotAdd_0 rfl (lv_at hl 0 rfl) ?_
  refine z_callVi (isC := [0, 1]) (isR := []) (isO := [0, 1]) (()) (q_X9_runs_f cy h0 h1 h2 h3 h4 h5 h6 h7 h8 h9 v1 v2 v3 v4 v5 v6 v7 v8 v9 v10 v11 g) (fun o_1 => [(h0, .inr (11, [.ref h1, .ref h2, .ref h3, .ref h4, .ref h5, .int v1, .int v2, .int v3, .int v4, .int v5, .ref h6, .int v6, .ref h7, .ref h8, .ref h9, .int v7, .int v8, .int v9, .int v10, .int v11])), (h1, .inl (cy 0, 64, .inl (g)))]) (fun o_1 => 0) (c_X9_runs_f l hE D cy h0 h1 h2 h3 h4 h5 h6 h7 h8 h9 v1 v2 v3 v4 v5 v6 v7 v8 v9 v10 v11 g hr) hE C zs_X9_76 ⟨Nat.le_of_ble_eq_true rfl, Nat.le_of_ble_eq_true rfl⟩ hP hD hS hA hE0 ⟨rfl, rfl, rfl, by decide, rfl, rfl, rfl⟩ 0 rfl rfl rfl rfl hl.1 (Nat.le_of_ble_eq_true rfl) rfl dX9_cannotAdd_1 ⟨Nat.le_of_ble_eq_true rfl, Nat.le_of_ble_eq_true rfl⟩ (fun o_1 H locs eo_1 hP hD hS => ?_)
  refine lv_if_ne (tgt := 17) hX hB dX9_cannotAdd_4 (by decide) (fun c => absurd (by decide) c) (fun _ => ?_)
  refine lv_aload_n hX hB dX9_cannotAdd_7 rfl (lv_at hl 0 rfl) ?_
  refine fg_X9_7 C hP 0 rfl rfl dX9_cannotAdd_8 ?_
  refine lv_iconst (v := 2) hX hB dX9_cannotAdd_11 (by decide) ?_
  refine z_iald C hP 1 rfl (k := 2) (zlit 2) (by decide) (by decide) (v := g 2) rfl dX9_cannotAdd_12 ?_
  refine lv_iconst (v := 4) hX hB dX9_cannotAdd_13 (by decide) ?_
  refine lv_icmp_ne (tgt := 21) hX hB dX9_cannotAdd_14 (by decide) (fun _ => ?_) (fun c => absurd c hq)
  refine lv_iconst (v := 0) hX hB dX9_cannotAdd_21 (by decide) ?_
  exact z_iret' () (w' := q_X9_cannotAdd_ok cy h0 h1 h2 h3 h4 h5 h6 h7 h8 h9 v1 v2 v3 v4 v5 v6 v7 v8 v9 v10 v11 g) (r0 := (fun (o : Unit) => 0)) rfl C hRT hP hD hS (Nat.le_of_ble_eq_true rfl) (Nat.le_of_ble_eq_true rfl) rfl rfl dX9_cannotAdd_22

def q_X9_cannotAdd_1 (cy : Nat → ClassId) (h0 : Nat) (h1 : Nat) (h2 : Nat) (h3 : Nat) (h4 : Nat) (h5 : Nat) (h6 : Nat) (h7 : Nat) (h8 : Nat) (h9 : Nat) (v1 : Int32) (v2 : Int32) (v3 : Int32) (v4 : Int32) (v5 : Int32) (v6 : Int32) (v7 : Int32) (v8 : Int32) (v9 : Int32) (v10 : Int32) (v11 : Int32) (g : Nat → Int32) (o : Unit) : va_W := [(h0, .inr (11, [.ref h1, .ref h2, .ref h3, .ref h4, .ref h5, .int v1, .int v2, .int v3, .int v4, .int v5, .ref h6, .int v6, .ref h7, .ref h8, .ref h9, .int v7, .int v8, .int v9, .int v10, .int v11])), (h1, .inl (cy 0, 64, .inl (g)))]
set_option maxHeartbeats 4000000 in
set_option maxRecDepth 100000 in
theorem c_X9_cannotAdd_1 (l : Launch) {E : zEn} (hE : zEok E) (D : zG) (cy : Nat → ClassId) (h0 h1 h2 h3 h4 h5 h6 h7 h8 h9 : Nat) (v1 : Int32) (v2 : Int32) (v3 : Int32) (v4 : Int32) (v5 : Int32) (v6 : Int32) (v7 : Int32) (v8 : Int32) (v9 : Int32) (v10 : Int32) (v11 : Int32) (g : Nat → Int32) (hr : g 0 = 1) (sz : Nat) : Met l yX9_cannotAdd (zws yX9_cannotAdd cX9_cannotAdd 1 (some .int)) { frames := 1, cells := 0, slots := 0, locals := 20 } (zPre E D cy [.ref h0] [(h0, .inr (11, [.ref h1, .ref h2, .ref h3, .ref h4, .ref h5, .int v1, .int v2, .int v3, .int v4, .int v5, .ref h6, .int v6, .ref h7, .ref h8, .ref h9, .int v7, .int v8, .int v9, .int v10, .int v11])), (h1, .inl (cy 0, 64, .inl (g)))] sz) (zQi D ((q_X9_cannotAdd_1 cy h0 h1 h2 h3 h4 h5 h6 h7 h8 h9 v1 v2 v3 v4 v5 v6 v7 v8 v9 v10 v11 g) ()) (va_A [(h0, .inr (11, [.ref h1, .ref h2, .ref h3, .ref h4, .ref h5, .int v1, .int v2, .int v3, .int v4, .int v5, .ref h6, .int v6, .ref h7, .ref h8, .ref h9, .int v7, .int v8, .int v9, .int v10, .int v11])), (h1, .inl (cy 0, 64, .inl (g)))] sz) (1)) 0 0 (va_A [(h0, .inr (11, [.ref h1, .ref h2, .ref h3, .ref h4, .ref h5, .int v1, .int v2, .int v3, .int v4, .int v5, .ref h6, .int v6, .ref h7, .ref h8, .ref h9, .int v7, .int v8, .int v9, .int v10, .int v11])), (h1, .inl (cy 0, 64, .inl (g)))] sz) := by
  refine z_of (Qc := fun A => zQi D ((q_X9_cannotAdd_1 cy h0 h1 h2 h3 h4 h5 h6 h7 h8 h9 v1 v2 v3 v4 v5 v6 v7 v8 v9 v10 v11 g) ()) A (1)) (by decide +kernel) (Nat.le_of_ble_eq_true rfl) rfl ?_
  intro pG eN sT mI below meth cO A ls C hRT hnm hA hP hD hS hE0 hl
  have hX := C.x
  have hB := C.b
  refine lv_aload_n hX hB dX9_cannotAdd_0 rfl (lv_at hl 0 rfl) ?_
  refine z_callVi (isC := [0, 1]) (isR := []) (isO := [0, 1]) (()) (q_X9_runs_t cy h0 h1 h2 h3 h4 h5 h6 h7 h8 h9 v1 v2 v3 v4 v5 v6 v7 v8 v9 v10 v11 g) (fun o_1 => [(h0, .inr (11, [.ref h1, .ref h2, .ref h3, .ref h4, .ref h5, .int v1, .int v2, .int v3, .int v4, .int v5, .ref h6, .int v6, .ref h7, .ref h8, .ref h9, .int v7, .int v8, .int v9, .int v10, .int v11])), (h1, .inl (cy 0, 64, .inl (g)))]) (fun o_1 => 1) (c_X9_runs_t l hE D cy h0 h1 h2 h3 h4 h5 h6 h7 h8 h9 v1 v2 v3 v4 v5 v6 v7 v8 v9 v10 v11 g hr) hE C zs_X9_76 ⟨Nat.le_of_ble_eq_true rfl, Nat.le_of_ble_eq_true rfl⟩ hP hD hS hA hE0 ⟨rfl, rfl, rfl, by decide, rfl, rfl, rfl⟩ 0 rfl rfl rfl rfl hl.1 (Nat.le_of_ble_eq_true rfl) rfl dX9_cannotAdd_1 ⟨Nat.le_of_ble_eq_true rfl, Nat.le_of_ble_eq_true rfl⟩ (fun o_1 H locs eo_1 hP hD hS => ?_)
  refine lv_if_ne (tgt := 17) hX hB dX9_cannotAdd_4 (by decide) (fun _ => ?_) (fun c => absurd c (by decide))
  refine lv_iconst (v := 1) hX hB dX9_cannotAdd_17 (by decide) ?_
  refine lv_goto (tgt := 22) hX hB dX9_cannotAdd_18 (by decide) ?_
  exact z_iret' () (w' := q_X9_cannotAdd_1 cy h0 h1 h2 h3 h4 h5 h6 h7 h8 h9 v1 v2 v3 v4 v5 v6 v7 v8 v9 v10 v11 g) (r0 := (fun (o : Unit) => 1)) rfl C hRT hP hD hS (Nat.le_of_ble_eq_true rfl) (Nat.le_of_ble_eq_true rfl) rfl rfl dX9_cannotAdd_22

def q_X9_cannotAdd_2 (cy : Nat → ClassId) (h0 : Nat) (h1 : Nat) (h2 : Nat) (h3 : Nat) (h4 : Nat) (h5 : Nat) (h6 : Nat) (h7 : Nat) (h8 : Nat) (h9 : Nat) (v1 : Int32) (v2 : Int32) (v3 : Int32) (v4 : Int32) (v5 : Int32) (v6 : Int32) (v7 : Int32) (v8 : Int32) (v9 : Int32) (v10 : Int32) (v11 : Int32) (g : Nat → Int32) (o : Unit) : va_W := [(h0, .inr (11, [.ref h1, .ref h2, .ref h3, .ref h4, .ref h5, .int v1, .int v2, .int v3, .int v4, .int v5, .ref h6, .int v6, .ref h7, .ref h8, .ref h9, .int v7, .int v8, .int v9, .int v10, .int v11])), (h1, .inl (cy 0, 64, .inl (g)))]
set_option maxHeartbeats 4000000 in
set_option maxRecDepth 100000 in
theorem c_X9_cannotAdd_2 (l : Launch) {E : zEn} (hE : zEok E) (D : zG) (cy : Nat → ClassId) (h0 h1 h2 h3 h4 h5 h6 h7 h8 h9 : Nat) (v1 : Int32) (v2 : Int32) (v3 : Int32) (v4 : Int32) (v5 : Int32) (v6 : Int32) (v7 : Int32) (v8 : Int32) (v9 : Int32) (v10 : Int32) (v11 : Int32) (g : Nat → Int32) (hr : ¬ g 0 = 1) (hq : g 2 = 4) (sz : Nat) : Met l yX9_cannotAdd (zws yX9_cannotAdd cX9_cannotAdd 1 (some .int)) { frames := 1, cells := 0, slots := 0, locals := 20 } (zPre E D cy [.ref h0] [(h0, .inr (11, [.ref h1, .ref h2, .ref h3, .ref h4, .ref h5, .int v1, .int v2, .int v3, .int v4, .int v5, .ref h6, .int v6, .ref h7, .ref h8, .ref h9, .int v7, .int v8, .int v9, .int v10, .int v11])), (h1, .inl (cy 0, 64, .inl (g)))] sz) (zQi D ((q_X9_cannotAdd_2 cy h0 h1 h2 h3 h4 h5 h6 h7 h8 h9 v1 v2 v3 v4 v5 v6 v7 v8 v9 v10 v11 g) ()) (va_A [(h0, .inr (11, [.ref h1, .ref h2, .ref h3, .ref h4, .ref h5, .int v1, .int v2, .int v3, .int v4, .int v5, .ref h6, .int v6, .ref h7, .ref h8, .ref h9, .int v7, .int v8, .int v9, .int v10, .int v11])), (h1, .inl (cy 0, 64, .inl (g)))] sz) (1)) 0 0 (va_A [(h0, .inr (11, [.ref h1, .ref h2, .ref h3, .ref h4, .ref h5, .int v1, .int v2, .int v3, .int v4, .int v5, .ref h6, .int v6, .ref h7, .ref h8, .ref h9, .int v7, .int v8, .int v9, .int v10, .int v11])), (h1, .inl (cy 0, 64, .inl (g)))] sz) := by
  refine z_of (Qc := fun A => zQi D ((q_X9_cannotAdd_2 cy h0 h1 h2 h3 h4 h5 h6 h7 h8 h9 v1 v2 v3 v4 v5 v6 v7 v8 v9 v10 v11 g) ()) A (1)) (by decide +kernel) (Nat.le_of_ble_eq_true rfl) rfl ?_
  intro pG eN sT mI below meth cO A ls C hRT hnm hA hP hD hS hE0 hl
  have hX := C.x
  have hB := C.b
  refine lv_aload_n hX hB dX9_cannotAdd_0 rfl (lv_at hl 0 rfl) ?_
  refine z_callVi (isC := [0, 1]) (isR := []) (isO := [0, 1]) (()) (q_X9_runs_f cy h0 h1 h2 h3 h4 h5 h6 h7 h8 h9 v1 v2 v3 v4 v5 v6 v7 v8 v9 v10 v11 g) (fun o_1 => [(h0, .inr (11, [.ref h1, .ref h2, .ref h3, .ref h4, .ref h5, .int v1, .int v2, .int v3, .int v4, .int v5, .ref h6, .int v6, .ref h7, .ref h8, .ref h9, .int v7, .int v8, .int v9, .int v10, .int v11])), (h1, .inl (cy 0, 64, .inl (g)))]) (fun o_1 => 0) (c_X9_runs_f l hE D cy h0 h1 h2 h3 h4 h5 h6 h7 h8 h9 v1 v2 v3 v4 v5 v6 v7 v8 v9 v10 v11 g hr) hE C zs_X9_76 ⟨Nat.le_of_ble_eq_true rfl, Nat.le_of_ble_eq_true rfl⟩ hP hD hS hA hE0 ⟨rfl, rfl, rfl, by decide, rfl, rfl, rfl⟩ 0 rfl rfl rfl rfl hl.1 (Nat.le_of_ble_eq_true rfl) rfl dX9_cannotAdd_1 ⟨Nat.le_of_ble_eq_true rfl, Nat.le_of_ble_eq_true rfl⟩ (fun o_1 H locs eo_1 hP hD hS => ?_)
  refine lv_if_ne (tgt := 17) hX hB dX9_cannotAdd_4 (by decide) (fun c => absurd (by decide) c) (fun _ => ?_)
  refine lv_aload_n hX hB dX9_cannotAdd_7 rfl (lv_at hl 0 rfl) ?_
  refine fg_X9_7 C hP 0 rfl rfl dX9_cannotAdd_8 ?_
  refine lv_iconst (v := 2) hX hB dX9_cannotAdd_11 (by decide) ?_
  refine z_iald C hP 1 rfl (k := 2) (zlit 2) (by decide) (by decide) (v := g 2) rfl dX9_cannotAdd_12 ?_
  refine lv_iconst (v := 4) hX hB dX9_cannotAdd_13 (by decide) ?_
  refine lv_icmp_ne (tgt := 21) hX hB dX9_cannotAdd_14 (by decide) (fun c => absurd hq c) (fun _ => ?_)
  refine lv_iconst (v := 1) hX hB dX9_cannotAdd_17 (by decide) ?_
  refine lv_goto (tgt := 22) hX hB dX9_cannotAdd_18 (by decide) ?_
  exact z_iret' () (w' := q_X9_cannotAdd_2 cy h0 h1 h2 h3 h4 h5 h6 h7 h8 h9 v1 v2 v3 v4 v5 v6 v7 v8 v9 v10 v11 g) (r0 := (fun (o : Unit) => 1)) rfl C hRT hP hD hS (Nat.le_of_ble_eq_true rfl) (Nat.le_of_ble_eq_true rfl) rfl rfl dX9_cannotAdd_22

def n_X9_quits (g : Nat → Int32) : Int32 × (Nat → Int32) :=
  (g 3, upd g 0 0)
def q_X9_quits (cy : Nat → ClassId) (h0 : Nat) (h1 : Nat) (h2 : Nat) (h3 : Nat) (h4 : Nat) (h5 : Nat) (h6 : Nat) (h7 : Nat) (h8 : Nat) (h9 : Nat) (v1 : Int32) (v2 : Int32) (v3 : Int32) (v4 : Int32) (v5 : Int32) (v6 : Int32) (v7 : Int32) (v8 : Int32) (v9 : Int32) (v10 : Int32) (v11 : Int32) (o : Int32 × (Nat → Int32)) : va_W := [(h0, .inr (11, [.ref h1, .ref h2, .ref h3, .ref h4, .ref h5, .int v1, .int v2, .int v3, .int v4, .int v5, .ref h6, .int v6, .ref h7, .ref h8, .ref h9, .int v7, .int v8, .int v9, .int v10, .int v11])), (h1, .inl (cy 0, 64, .inl (o.2)))]
theorem k_X9_quits (g : Nat → Int32)  (j : Nat) (hj : j ≠ 0) : (n_X9_quits g).2 j = g j := by
  simp only [n_X9_quits]
  repeat (any_goals split)
  all_goals (try simp (disch := omega) only [pk_un])
set_option maxHeartbeats 4000000 in
set_option maxRecDepth 100000 in
theorem c_X9_quits (l : Launch) {E : zEn} (hE : zEok E) (D : zG) (cy : Nat → ClassId) (h0 h1 h2 h3 h4 h5 h6 h7 h8 h9 : Nat) (v1 : Int32) (v2 : Int32) (v3 : Int32) (v4 : Int32) (v5 : Int32) (v6 : Int32) (v7 : Int32) (v8 : Int32) (v9 : Int32) (v10 : Int32) (v11 : Int32) (g : Nat → Int32)  (sz : Nat) : Met l yX9_quits (zws yX9_quits cX9_quits 1 (some .int)) { frames := 0, cells := 0, slots := 0, locals := 0 } (zPre E D cy [.ref h0] [(h0, .inr (11, [.ref h1, .ref h2, .ref h3, .ref h4, .ref h5, .int v1, .int v2, .int v3, .int v4, .int v5, .ref h6, .int v6, .ref h7, .ref h8, .ref h9, .int v7, .int v8, .int v9, .int v10, .int v11])), (h1, .inl (cy 0, 64, .inl (g)))] sz) (zQi D ((q_X9_quits cy h0 h1 h2 h3 h4 h5 h6 h7 h8 h9 v1 v2 v3 v4 v5 v6 v7 v8 v9 v10 v11) (n_X9_quits g)) (va_A [(h0, .inr (11, [.ref h1, .ref h2, .ref h3, .ref h4, .ref h5, .int v1, .int v2, .int v3, .int v4, .int v5, .ref h6, .int v6, .ref h7, .ref h8, .ref h9, .int v7, .int v8, .int v9, .int v10, .int v11])), (h1, .inl (cy 0, 64, .inl (g)))] sz) ((n_X9_quits g).1)) 0 0 (va_A [(h0, .inr (11, [.ref h1, .ref h2, .ref h3, .ref h4, .ref h5, .int v1, .int v2, .int v3, .int v4, .int v5, .ref h6, .int v6, .ref h7, .ref h8, .ref h9, .int v7, .int v8, .int v9, .int v10, .int v11])), (h1, .inl (cy 0, 64, .inl (g)))] sz) := by
  refine z_of (Qc := fun A => zQi D ((q_X9_quits cy h0 h1 h2 h3 h4 h5 h6 h7 h8 h9 v1 v2 v3 v4 v5 v6 v7 v8 v9 v10 v11) (n_X9_quits g)) A ((n_X9_quits g).1)) (by decide +kernel) (Nat.le_of_ble_eq_true rfl) rfl ?_
  intro pG eN sT mI below meth cO A ls C hRT hnm hA hP hD hS hE0 hl
  have hX := C.x
  have hB := C.b
  refine lv_aload_n hX hB dX9_quits_0 rfl (lv_at hl 0 rfl) ?_
  refine fg_X9_7 C hP 0 rfl rfl dX9_quits_1 ?_
  refine lv_iconst (v := 0) hX hB dX9_quits_4 (by decide) ?_
  refine lv_iconst (v := 0) hX hB dX9_quits_5 (by decide) ?_
  refine z_iast C hP hD hS 1 rfl (k := 0) (zlit 0) (by decide) (by decide) (w' := [(h0, .inr (11, [.ref h1, .ref h2, .ref h3, .ref h4, .ref h5, .int v1, .int v2, .int v3, .int v4, .int v5, .ref h6, .int v6, .ref h7, .ref h8, .ref h9, .int v7, .int v8, .int v9, .int v10, .int v11])), (h1, .inl (cy 0, 64, .inl (upd g 0 0)))]) rfl dX9_quits_6 (fun H locs hP hD hS => ?_)
  refine lv_aload_n hX hB dX9_quits_7 rfl (lv_at hl 0 rfl) ?_
  refine fg_X9_7 C hP 0 rfl rfl dX9_quits_8 ?_
  refine lv_iconst (v := 3) hX hB dX9_quits_11 (by decide) ?_
  refine z_iald C hP 1 rfl (k := 3) (zlit 3) (by decide) (by decide) (v := g 3) (pk_un (by decide)) dX9_quits_12 ?_
  exact z_iret' (g 3, upd g 0 0) (w' := q_X9_quits cy h0 h1 h2 h3 h4 h5 h6 h7 h8 h9 v1 v2 v3 v4 v5 v6 v7 v8 v9 v10 v11) (r0 := (fun (o : Int32 × (Nat → Int32)) => o.1)) (by simp only [n_X9_quits]) C hRT hP hD hS (Nat.le_of_ble_eq_true rfl) (Nat.le_of_ble_eq_true rfl) rfl rfl dX9_quits_13

def n_X9_adds (g : Nat → Int32) : Int32 × (Nat → Int32) :=
  (g 2, upd (upd (upd (upd g (30 + (zn (g 2))) 0) (34 + (zn (g 2))) 0) (38 + (zn (g 2))) 0) 2 (nI ((zn (g 2)) + 1)))
def q_X9_adds (cy : Nat → ClassId) (h0 : Nat) (h1 : Nat) (h2 : Nat) (h3 : Nat) (h4 : Nat) (h5 : Nat) (h6 : Nat) (h7 : Nat) (h8 : Nat) (h9 : Nat) (v1 : Int32) (v2 : Int32) (v3 : Int32) (v4 : Int32) (v5 : Int32) (v6 : Int32) (v7 : Int32) (v8 : Int32) (v9 : Int32) (v10 : Int32) (v11 : Int32) (o : Int32 × (Nat → Int32)) : va_W := [(h0, .inr (11, [.ref h1, .ref h2, .ref h3, .ref h4, .ref h5, .int v1, .int v2, .int v3, .int v4, .int v5, .ref h6, .int v6, .ref h7, .ref h8, .ref h9, .int v7, .int v8, .int v9, .int v10, .int v11])), (h1, .inl (cy 0, 64, .inl (o.2)))]
theorem k_X9_adds (g : Nat → Int32)  (j : Nat) (hj : j ≠ 2 ∧ j < 30) : (n_X9_adds g).2 j = g j := by
  simp only [n_X9_adds]
  repeat (any_goals split)
  all_goals (try simp (disch := omega) only [pk_un])
set_option maxHeartbeats 4000000 in
set_option maxRecDepth 100000 in
theorem c_X9_adds (l : Launch) {E : zEn} (hE : zEok E) (D : zG) (cy : Nat → ClassId) (h0 h1 h2 h3 h4 h5 h6 h7 h8 h9 : Nat) (v1 : Int32) (v2 : Int32) (v3 : Int32) (v4 : Int32) (v5 : Int32) (v6 : Int32) (v7 : Int32) (v8 : Int32) (v9 : Int32) (v10 : Int32) (v11 : Int32) (g : Nat → Int32) (hn : zle (g 2) 3) (sz : Nat) : Met l yX9_adds (zws yX9_adds cX9_adds 2 (some .int)) { frames := 0, cells := 0, slots := 0, locals := 0 } (zPre E D cy [.ref h0] [(h0, .inr (11, [.ref h1, .ref h2, .ref h3, .ref h4, .ref h5, .int v1, .int v2, .int v3, .int v4, .int v5, .ref h6, .int v6, .ref h7, .ref h8, .ref h9, .int v7, .int v8, .int v9, .int v10, .int v11])), (h1, .inl (cy 0, 64, .inl (g)))] sz) (zQi D ((q_X9_adds cy h0 h1 h2 h3 h4 h5 h6 h7 h8 h9 v1 v2 v3 v4 v5 v6 v7 v8 v9 v10 v11) (n_X9_adds g)) (va_A [(h0, .inr (11, [.ref h1, .ref h2, .ref h3, .ref h4, .ref h5, .int v1, .int v2, .int v3, .int v4, .int v5, .ref h6, .int v6, .ref h7, .ref h8, .ref h9, .int v7, .int v8, .int v9, .int v10, .int v11])), (h1, .inl (cy 0, 64, .inl (g)))] sz) ((n_X9_adds g).1)) 0 0 (va_A [(h0, .inr (11, [.ref h1, .ref h2, .ref h3, .ref h4, .ref h5, .int v1, .int v2, .int v3, .int v4, .int v5, .ref h6, .int v6, .ref h7, .ref h8, .ref h9, .int v7, .int v8, .int v9, .int v10, .int v11])), (h1, .inl (cy 0, 64, .inl (g)))] sz) := by
  refine z_of (Qc := fun A => zQi D ((q_X9_adds cy h0 h1 h2 h3 h4 h5 h6 h7 h8 h9 v1 v2 v3 v4 v5 v6 v7 v8 v9 v10 v11) (n_X9_adds g)) A ((n_X9_adds g).1)) (by decide +kernel) (Nat.le_of_ble_eq_true rfl) rfl ?_
  intro pG eN sT mI below meth cO A ls C hRT hnm hA hP hD hS hE0 hl
  have hX := C.x
  have hB := C.b
  have hn_ := hn.2
  refine lv_aload_n hX hB dX9_adds_0 rfl (lv_at hl 0 rfl) ?_
  refine fg_X9_7 C hP 0 rfl rfl dX9_adds_1 ?_
  refine lv_iconst (v := 2) hX hB dX9_adds_4 (by decide) ?_
  refine z_iald C hP 1 rfl (k := 2) (zlit 2) (by decide) (by decide) (v := g 2) rfl dX9_adds_5 ?_
  refine lv_istore_n (lv' := [(1, .int (g 2)), (0, .ref h0)]) hX hB dX9_adds_6 rfl hl (by decide) rfl (fun ls hl => ?_)
  refine lv_aload_n hX hB dX9_adds_7 rfl (lv_at hl 1 rfl) ?_
  refine fg_X9_7 C hP 0 rfl rfl dX9_adds_8 ?_
  refine lv_bipush (v := 30) hX hB dX9_adds_11 (by decide) ?_
  refine lv_iload_n hX hB dX9_adds_13 rfl (lv_at hl 0 rfl) ?_
  refine z_iadd (v := nI (30 + (zn (g 2)))) C dX9_adds_14 (zi_add (zlit 30) hn.1) ?_
  refine lv_iconst (v := 0) hX hB dX9_adds_15 (by decide) ?_
  refine z_iast C hP hD hS 1 rfl (k := 30 + (zn (g 2))) (zi_i (30 + (zn (g 2)))) (by omega) (by decide) (w' := [(h0, .inr (11, [.ref h1, .ref h2, .ref h3, .ref h4, .ref h5, .int v1, .int v2, .int v3, .int v4, .int v5, .ref h6, .int v6, .ref h7, .ref h8, .ref h9, .int v7, .int v8, .int v9, .int v10, .int v11])), (h1, .inl (cy 0, 64, .inl (upd g (30 + (zn (g 2))) 0)))]) rfl dX9_adds_16 (fun H locs hP hD hS => ?_)
  refine lv_aload_n hX hB dX9_adds_17 rfl (lv_at hl 1 rfl) ?_
  refine fg_X9_7 C hP 0 rfl rfl dX9_adds_18 ?_
  refine lv_bipush (v := 34) hX hB dX9_adds_21 (by decide) ?_
  refine lv_iload_n hX hB dX9_adds_23 rfl (lv_at hl 0 rfl) ?_
  refine z_iadd (v := nI (34 + (zn (g 2)))) C dX9_adds_24 (zi_add (zlit 34) hn.1) ?_
  refine lv_iconst (v := 0) hX hB dX9_adds_25 (by decide) ?_
  refine z_iast C hP hD hS 1 rfl (k := 34 + (zn (g 2))) (zi_i (34 + (zn (g 2)))) (by omega) (by decide) (w' := [(h0, .inr (11, [.ref h1, .ref h2, .ref h3, .ref h4, .ref h5, .int v1, .int v2, .int v3, .int v4, .int v5, .ref h6, .int v6, .ref h7, .ref h8, .ref h9, .int v7, .int v8, .int v9, .int v10, .int v11])), (h1, .inl (cy 0, 64, .inl (upd (upd g (30 + (zn (g 2))) 0) (34 + (zn (g 2))) 0)))]) rfl dX9_adds_26 (fun H locs hP hD hS => ?_)
  refine lv_aload_n hX hB dX9_adds_27 rfl (lv_at hl 1 rfl) ?_
  refine fg_X9_7 C hP 0 rfl rfl dX9_adds_28 ?_
  refine lv_bipush (v := 38) hX hB dX9_adds_31 (by decide) ?_
  refine lv_iload_n hX hB dX9_adds_33 rfl (lv_at hl 0 rfl) ?_
  refine z_iadd (v := nI (38 + (zn (g 2)))) C dX9_adds_34 (zi_add (zlit 38) hn.1) ?_
  refine lv_iconst (v := 0) hX hB dX9_adds_35 (by decide) ?_
  refine z_iast C hP hD hS 1 rfl (k := 38 + (zn (g 2))) (zi_i (38 + (zn (g 2)))) (by omega) (by decide) (w' := [(h0, .inr (11, [.ref h1, .ref h2, .ref h3, .ref h4, .ref h5, .int v1, .int v2, .int v3, .int v4, .int v5, .ref h6, .int v6, .ref h7, .ref h8, .ref h9, .int v7, .int v8, .int v9, .int v10, .int v11])), (h1, .inl (cy 0, 64, .inl (upd (upd (upd g (30 + (zn (g 2))) 0) (34 + (zn (g 2))) 0) (38 + (zn (g 2))) 0)))]) rfl dX9_adds_36 (fun H locs hP hD hS => ?_)
  refine lv_aload_n hX hB dX9_adds_37 rfl (lv_at hl 1 rfl) ?_
  refine fg_X9_7 C hP 0 rfl rfl dX9_adds_38 ?_
  refine lv_iconst (v := 2) hX hB dX9_adds_41 (by decide) ?_
  refine lv_dup2_11 hX hB dX9_adds_42 rfl rfl ?_
  refine z_iald C hP 1 rfl (k := 2) (zlit 2) (by decide) (by decide) (v := g 2) ((pk_un (by omega)).trans ((pk_un (by omega)).trans (pk_un (by omega)))) dX9_adds_43 ?_
  refine lv_iconst (v := 1) hX hB dX9_adds_44 (by decide) ?_
  refine z_iadd (v := nI ((zn (g 2)) + 1)) C dX9_adds_45 (zi_add hn.1 (zlit 1)) ?_
  refine z_iast C hP hD hS 1 rfl (k := 2) (zlit 2) (by decide) (by decide) (w' := [(h0, .inr (11, [.ref h1, .ref h2, .ref h3, .ref h4, .ref h5, .int v1, .int v2, .int v3, .int v4, .int v5, .ref h6, .int v6, .ref h7, .ref h8, .ref h9, .int v7, .int v8, .int v9, .int v10, .int v11])), (h1, .inl (cy 0, 64, .inl (upd (upd (upd (upd g (30 + (zn (g 2))) 0) (34 + (zn (g 2))) 0) (38 + (zn (g 2))) 0) 2 (nI ((zn (g 2)) + 1)))))]) rfl dX9_adds_46 (fun H locs hP hD hS => ?_)
  refine lv_iload_n hX hB dX9_adds_47 rfl (lv_at hl 0 rfl) ?_
  exact z_iret' (g 2, upd (upd (upd (upd g (30 + (zn (g 2))) 0) (34 + (zn (g 2))) 0) (38 + (zn (g 2))) 0) 2 (nI ((zn (g 2)) + 1))) (w' := q_X9_adds cy h0 h1 h2 h3 h4 h5 h6 h7 h8 h9 v1 v2 v3 v4 v5 v6 v7 v8 v9 v10 v11) (r0 := (fun (o : Int32 × (Nat → Int32)) => o.1)) (by simp only [n_X9_adds]) C hRT hP hD hS (Nat.le_of_ble_eq_true rfl) (Nat.le_of_ble_eq_true rfl) rfl rfl dX9_adds_48

def n_X9_beginsBall (g : Nat → Int32) : Nat → Int32 :=
  upd (upd (upd (upd (upd (upd (upd (upd (upd (upd (upd (upd (upd (upd (upd (upd (upd (upd (upd (upd g 5 1) 16 0) 17 0) 18 0) 19 0) 20 50) 21 50) 22 50) 24 0) 25 0) 26 0) 27 0) 28 0) 6 0) 7 0) 8 0) 9 0) 10 0) 11 0) 12 0
def q_X9_beginsBall (cy : Nat → ClassId) (h0 : Nat) (h1 : Nat) (h2 : Nat) (h3 : Nat) (h4 : Nat) (h5 : Nat) (h6 : Nat) (h7 : Nat) (h8 : Nat) (h9 : Nat) (v1 : Int32) (v2 : Int32) (v3 : Int32) (v4 : Int32) (v5 : Int32) (v6 : Int32) (v7 : Int32) (v8 : Int32) (v9 : Int32) (v10 : Int32) (v11 : Int32) (o : Nat → Int32) : va_W := [(h0, .inr (11, [.ref h1, .ref h2, .ref h3, .ref h4, .ref h5, .int v1, .int v2, .int v3, .int v4, .int v5, .ref h6, .int v6, .ref h7, .ref h8, .ref h9, .int v7, .int v8, .int v9, .int v10, .int v11])), (h1, .inl (cy 0, 64, .inl (o)))]
theorem k_X9_beginsBall (g : Nat → Int32)  (j : Nat) (hj : ¬ (5 ≤ j ∧ j ≤ 12) ∧ ¬ (16 ≤ j ∧ j ≤ 22) ∧ ¬ (24 ≤ j ∧ j ≤ 28)) : (n_X9_beginsBall g) j = g j := by
  simp only [n_X9_beginsBall]
  repeat (any_goals split)
  all_goals (try simp (disch := omega) only [pk_un])
set_option maxHeartbeats 4000000 in
set_option maxRecDepth 100000 in
theorem c_X9_beginsBall (l : Launch) {E : zEn} (hE : zEok E) (D : zG) (cy : Nat → ClassId) (h0 h1 h2 h3 h4 h5 h6 h7 h8 h9 : Nat) (v1 : Int32) (v2 : Int32) (v3 : Int32) (v4 : Int32) (v5 : Int32) (v6 : Int32) (v7 : Int32) (v8 : Int32) (v9 : Int32) (v10 : Int32) (v11 : Int32) (g : Nat → Int32)  (sz : Nat) : Met l yX9_beginsBall (zws yX9_beginsBall cX9_beginsBall 2 none) { frames := 0, cells := 0, slots := 0, locals := 0 } (zPre E D cy [.ref h0] [(h0, .inr (11, [.ref h1, .ref h2, .ref h3, .ref h4, .ref h5, .int v1, .int v2, .int v3, .int v4, .int v5, .ref h6, .int v6, .ref h7, .ref h8, .ref h9, .int v7, .int v8, .int v9, .int v10, .int v11])), (h1, .inl (cy 0, 64, .inl (g)))] sz) (zQv D ((q_X9_beginsBall cy h0 h1 h2 h3 h4 h5 h6 h7 h8 h9 v1 v2 v3 v4 v5 v6 v7 v8 v9 v10 v11) (n_X9_beginsBall g)) (va_A [(h0, .inr (11, [.ref h1, .ref h2, .ref h3, .ref h4, .ref h5, .int v1, .int v2, .int v3, .int v4, .int v5, .ref h6, .int v6, .ref h7, .ref h8, .ref h9, .int v7, .int v8, .int v9, .int v10, .int v11])), (h1, .inl (cy 0, 64, .inl (g)))] sz)) 0 0 (va_A [(h0, .inr (11, [.ref h1, .ref h2, .ref h3, .ref h4, .ref h5, .int v1, .int v2, .int v3, .int v4, .int v5, .ref h6, .int v6, .ref h7, .ref h8, .ref h9, .int v7, .int v8, .int v9, .int v10, .int v11])), (h1, .inl (cy 0, 64, .inl (g)))] sz) := by
  refine z_of (Qc := fun A => zQv D ((q_X9_beginsBall cy h0 h1 h2 h3 h4 h5 h6 h7 h8 h9 v1 v2 v3 v4 v5 v6 v7 v8 v9 v10 v11) (n_X9_beginsBall g)) A) (by decide +kernel) (Nat.le_of_ble_eq_true rfl) rfl ?_
  intro pG eN sT mI below meth cO A ls C hRT hnm hA hP hD hS hE0 hl
  have hX := C.x
  have hB := C.b
  refine lv_aload_n hX hB dX9_beginsBall_0 rfl (lv_at hl 0 rfl) ?_
  refine fg_X9_7 C hP 0 rfl rfl dX9_beginsBall_1 ?_
  refine lv_iconst (v := 5) hX hB dX9_beginsBall_4 (by decide) ?_
  refine lv_iconst (v := 1) hX hB dX9_beginsBall_5 (by decide) ?_
  refine z_iast C hP hD hS 1 rfl (k := 5) (zlit 5) (by decide) (by decide) (w' := [(h0, .inr (11, [.ref h1, .ref h2, .ref h3, .ref h4, .ref h5, .int v1, .int v2, .int v3, .int v4, .int v5, .ref h6, .int v6, .ref h7, .ref h8, .ref h9, .int v7, .int v8, .int v9, .int v10, .int v11])), (h1, .inl (cy 0, 64, .inl (upd g 5 1)))]) rfl dX9_beginsBall_6 (fun H locs hP hD hS => ?_)
  refine lv_iconst (v := 0) hX hB dX9_beginsBall_7 (by decide) ?_
  refine lv_istore_n (lv' := [(1, .int 0), (0, .ref h0)]) hX hB dX9_beginsBall_8 rfl hl (by decide) rfl (fun ls hl => ?_)
  refine lv_iload_n hX hB dX9_beginsBall_9 rfl (lv_at hl 0 rfl) ?_
  refine lv_iconst (v := 4) hX hB dX9_beginsBall_10 (by decide) ?_
  refine lv_icmp_ge (tgt := 30) hX hB dX9_beginsBall_11 (by decide) (fun c => absurd c (by decide)) (fun _ => ?_)
  refine lv_aload_n hX hB dX9_beginsBall_14 rfl (lv_at hl 1 rfl) ?_
  refine fg_X9_7 C hP 0 rfl rfl dX9_beginsBall_15 ?_
  refine lv_bipush (v := 16) hX hB dX9_beginsBall_18 (by decide) ?_
  refine lv_iload_n hX hB dX9_beginsBall_20 rfl (lv_at hl 0 rfl) ?_
  refine z_iadd (v := 16) C dX9_beginsBall_21 (by decide) ?_
  refine lv_iconst (v := 0) hX hB dX9_beginsBall_22 (by decide) ?_
  refine z_iast C hP hD hS 1 rfl (k := 16) (zlit 16) (by decide) (by decide) (w' := [(h0, .inr (11, [.ref h1, .ref h2, .ref h3, .ref h4, .ref h5, .int v1, .int v2, .int v3, .int v4, .int v5, .ref h6, .int v6, .ref h7, .ref h8, .ref h9, .int v7, .int v8, .int v9, .int v10, .int v11])), (h1, .inl (cy 0, 64, .inl (upd (upd g 5 1) 16 0)))]) rfl dX9_beginsBall_23 (fun H locs hP hD hS => ?_)
  refine lv_iinc (v := 1) (lv' := [(1, .int 1), (0, .ref h0)]) hX hB dX9_beginsBall_24 hl (k := 0) rfl (by decide) (by decide) rfl (fun ls hl => ?_)
  refine lv_goto (tgt := 9) hX hB dX9_beginsBall_27 (by decide) ?_
  refine lv_iload_n hX hB dX9_beginsBall_9 rfl (lv_at hl 0 rfl) ?_
  refine lv_iconst (v := 4) hX hB dX9_beginsBall_10 (by decide) ?_
  refine lv_icmp_ge (tgt := 30) hX hB dX9_beginsBall_11 (by decide) (fun c => absurd c (by decide)) (fun _ => ?_)
  refine lv_aload_n hX hB dX9_beginsBall_14 rfl (lv_at hl 1 rfl) ?_
  refine fg_X9_7 C hP 0 rfl rfl dX9_beginsBall_15 ?_
  refine lv_bipush (v := 16) hX hB dX9_beginsBall_18 (by decide) ?_
  refine lv_iload_n hX hB dX9_beginsBall_20 rfl (lv_at hl 0 rfl) ?_
  refine z_iadd (v := 17) C dX9_beginsBall_21 (by decide) ?_
  refine lv_iconst (v := 0) hX hB dX9_beginsBall_22 (by decide) ?_
  refine z_iast C hP hD hS 1 rfl (k := 17) (zlit 17) (by decide) (by decide) (w' := [(h0, .inr (11, [.ref h1, .ref h2, .ref h3, .ref h4, .ref h5, .int v1, .int v2, .int v3, .int v4, .int v5, .ref h6, .int v6, .ref h7, .ref h8, .ref h9, .int v7, .int v8, .int v9, .int v10, .int v11])), (h1, .inl (cy 0, 64, .inl (upd (upd (upd g 5 1) 16 0) 17 0)))]) rfl dX9_beginsBall_23 (fun H locs hP hD hS => ?_)
  refine lv_iinc (v := 2) (lv' := [(1, .int 2), (0, .ref h0)]) hX hB dX9_beginsBall_24 hl (k := 0) rfl (by decide) (by decide) rfl (fun ls hl => ?_)
  refine lv_goto (tgt := 9) hX hB dX9_beginsBall_27 (by decide) ?_
  refine lv_iload_n hX hB dX9_beginsBall_9 rfl (lv_at hl 0 rfl) ?_
  refine lv_iconst (v := 4) hX hB dX9_beginsBall_10 (by decide) ?_
  refine lv_icmp_ge (tgt := 30) hX hB dX9_beginsBall_11 (by decide) (fun c => absurd c (by decide)) (fun _ => ?_)
  refine lv_aload_n hX hB dX9_beginsBall_14 rfl (lv_at hl 1 rfl) ?_
  refine fg_X9_7 C hP 0 rfl rfl dX9_beginsBall_15 ?_
  refine lv_bipush (v := 16) hX hB dX9_beginsBall_18 (by decide) ?_
  refine lv_iload_n hX hB dX9_beginsBall_20 rfl (lv_at hl 0 rfl) ?_
  refine z_iadd (v := 18) C dX9_beginsBall_21 (by decide) ?_
  refine lv_iconst (v := 0) hX hB dX9_beginsBall_22 (by decide) ?_
  refine z_iast C hP hD hS 1 rfl (k := 18) (zlit 18) (by decide) (by decide) (w' := [(h0, .inr (11, [.ref h1, .ref h2, .ref h3, .ref h4, .ref h5, .int v1, .int v2, .int v3, .int v4, .int v5, .ref h6, .int v6, .ref h7, .ref h8, .ref h9, .int v7, .int v8, .int v9, .int v10, .int v11])), (h1, .inl (cy 0, 64, .inl (upd (upd (upd (upd g 5 1) 16 0) 17 0) 18 0)))]) rfl dX9_beginsBall_23 (fun H locs hP hD hS => ?_)
  refine lv_iinc (v := 3) (lv' := [(1, .int 3), (0, .ref h0)]) hX hB dX9_beginsBall_24 hl (k := 0) rfl (by decide) (by decide) rfl (fun ls hl => ?_)
  refine lv_goto (tgt := 9) hX hB dX9_beginsBall_27 (by decide) ?_
  refine lv_iload_n hX hB dX9_beginsBall_9 rfl (lv_at hl 0 rfl) ?_
  refine lv_iconst (v := 4) hX hB dX9_beginsBall_10 (by decide) ?_
  refine lv_icmp_ge (tgt := 30) hX hB dX9_beginsBall_11 (by decide) (fun c => absurd c (by decide)) (fun _ => ?_)
  refine lv_aload_n hX hB dX9_beginsBall_14 rfl (lv_at hl 1 rfl) ?_
  refine fg_X9_7 C hP 0 rfl rfl dX9_beginsBall_15 ?_
  refine lv_bipush (v := 16) hX hB dX9_beginsBall_18 (by decide) ?_
  refine lv_iload_n hX hB dX9_beginsBall_20 rfl (lv_at hl 0 rfl) ?_
  refine z_iadd (v := 19) C dX9_beginsBall_21 (by decide) ?_
  refine lv_iconst (v := 0) hX hB dX9_beginsBall_22 (by decide) ?_
  refine z_iast C hP hD hS 1 rfl (k := 19) (zlit 19) (by decide) (by decide) (w' := [(h0, .inr (11, [.ref h1, .ref h2, .ref h3, .ref h4, .ref h5, .int v1, .int v2, .int v3, .int v4, .int v5, .ref h6, .int v6, .ref h7, .ref h8, .ref h9, .int v7, .int v8, .int v9, .int v10, .int v11])), (h1, .inl (cy 0, 64, .inl (upd (upd (upd (upd (upd g 5 1) 16 0) 17 0) 18 0) 19 0)))]) rfl dX9_beginsBall_23 (fun H locs hP hD hS => ?_)
  refine lv_iinc (v := 4) (lv' := [(1, .int 4), (0, .ref h0)]) hX hB dX9_beginsBall_24 hl (k := 0) rfl (by decide) (by decide) rfl (fun ls hl => ?_)
  refine lv_goto (tgt := 9) hX hB dX9_beginsBall_27 (by decide) ?_
  refine lv_iload_n hX hB dX9_beginsBall_9 rfl (lv_at hl 0 rfl) ?_
  refine lv_iconst (v := 4) hX hB dX9_beginsBall_10 (by decide) ?_
  refine lv_icmp_ge (tgt := 30) hX hB dX9_beginsBall_11 (by decide) (fun _ => ?_) (fun c => absurd (by decide) c)
  refine lv_iconst (v := 0) hX hB dX9_beginsBall_30 (by decide) ?_
  refine lv_istore_n (lv' := [(1, .int 0), (0, .ref h0)]) hX hB dX9_beginsBall_31 rfl hl (by decide) rfl (fun ls hl => ?_)
  refine lv_iload_n hX hB dX9_beginsBall_32 rfl (lv_at hl 0 rfl) ?_
  refine lv_iconst (v := 3) hX hB dX9_beginsBall_33 (by decide) ?_
  refine lv_icmp_ge (tgt := 54) hX hB dX9_beginsBall_34 (by decide) (fun c => absurd c (by decide)) (fun _ => ?_)
  refine lv_aload_n hX hB dX9_beginsBall_37 rfl (lv_at hl 1 rfl) ?_
  refine fg_X9_7 C hP 0 rfl rfl dX9_beginsBall_38 ?_
  refine lv_bipush (v := 20) hX hB dX9_beginsBall_41 (by decide) ?_
  refine lv_iload_n hX hB dX9_beginsBall_43 rfl (lv_at hl 0 rfl) ?_
  refine z_iadd (v := 20) C dX9_beginsBall_44 (by decide) ?_
  refine lv_bipush (v := 50) hX hB dX9_beginsBall_45 (by decide) ?_
  refine z_iast C hP hD hS 1 rfl (k := 20) (zlit 20) (by decide) (by decide) (w' := [(h0, .inr (11, [.ref h1, .ref h2, .ref h3, .ref h4, .ref h5, .int v1, .int v2, .int v3, .int v4, .int v5, .ref h6, .int v6, .ref h7, .ref h8, .ref h9, .int v7, .int v8, .int v9, .int v10, .int v11])), (h1, .inl (cy 0, 64, .inl (upd (upd (upd (upd (upd (upd g 5 1) 16 0) 17 0) 18 0) 19 0) 20 50)))]) rfl dX9_beginsBall_47 (fun H locs hP hD hS => ?_)
  refine lv_iinc (v := 1) (lv' := [(1, .int 1), (0, .ref h0)]) hX hB dX9_beginsBall_48 hl (k := 0) rfl (by decide) (by decide) rfl (fun ls hl => ?_)
  refine lv_goto (tgt := 32) hX hB dX9_beginsBall_51 (by decide) ?_
  refine lv_iload_n hX hB dX9_beginsBall_32 rfl (lv_at hl 0 rfl) ?_
  refine lv_iconst (v := 3) hX hB dX9_beginsBall_33 (by decide) ?_
  refine lv_icmp_ge (tgt := 54) hX hB dX9_beginsBall_34 (by decide) (fun c => absurd c (by decide)) (fun _ => ?_)
  refine lv_aload_n hX hB dX9_beginsBall_37 rfl (lv_at hl 1 rfl) ?_
  refine fg_X9_7 C hP 0 rfl rfl dX9_beginsBall_38 ?_
  refine lv_bipush (v := 20) hX hB dX9_beginsBall_41 (by decide) ?_
  refine lv_iload_n hX hB dX9_beginsBall_43 rfl (lv_at hl 0 rfl) ?_
  refine z_iadd (v := 21) C dX9_beginsBall_44 (by decide) ?_
  refine lv_bipush (v := 50) hX hB dX9_beginsBall_45 (by decide) ?_
  refine z_iast C hP hD hS 1 rfl (k := 21) (zlit 21) (by decide) (by decide) (w' := [(h0, .inr (11, [.ref h1, .ref h2, .ref h3, .ref h4, .ref h5, .int v1, .int v2, .int v3, .int v4, .int v5, .ref h6, .int v6, .ref h7, .ref h8, .ref h9, .int v7, .int v8, .int v9, .int v10, .int v11])), (h1, .inl (cy 0, 64, .inl (upd (upd (upd (upd (upd (upd (upd g 5 1) 16 0) 17 0) 18 0) 19 0) 20 50) 21 50)))]) rfl dX9_beginsBall_47 (fun H locs hP hD hS => ?_)
  refine lv_iinc (v := 2) (lv' := [(1, .int 2), (0, .ref h0)]) hX hB dX9_beginsBall_48 hl (k := 0) rfl (by decide) (by decide) rfl (fun ls hl => ?_)
  refine lv_goto (tgt := 32) hX hB dX9_beginsBall_51 (by decide) ?_
  refine lv_iload_n hX hB dX9_beginsBall_32 rfl (lv_at hl 0 rfl) ?_
  refine lv_iconst (v := 3) hX hB dX9_beginsBall_33 (by decide) ?_
  refine lv_icmp_ge (tgt := 54) hX hB dX9_beginsBall_34 (by decide) (fun c => absurd c (by decide)) (fun _ => ?_)
  refine lv_aload_n hX hB dX9_beginsBall_37 rfl (lv_at hl 1 rfl) ?_
  refine fg_X9_7 C hP 0 rfl rfl dX9_beginsBall_38 ?_
  refine lv_bipush (v := 20) hX hB dX9_beginsBall_41 (by decide) ?_
  refine lv_iload_n hX hB dX9_beginsBall_43 rfl (lv_at hl 0 rfl) ?_
  refine z_iadd (v := 22) C dX9_beginsBall_44 (by decide) ?_
  refine lv_bipush (v := 50) hX hB dX9_beginsBall_45 (by decide) ?_
  refine z_iast C hP hD hS 1 rfl (k := 22) (zlit 22) (by decide) (by decide) (w' := [(h0, .inr (11, [.ref h1, .ref h2, .ref h3, .ref h4, .ref h5, .int v1, .int v2, .int v3, .int v4, .int v5, .ref h6, .int v6, .ref h7, .ref h8, .ref h9, .int v7, .int v8, .int v9, .int v10, .int v11])), (h1, .inl (cy 0, 64, .inl (upd (upd (upd (upd (upd (upd (upd (upd g 5 1) 16 0) 17 0) 18 0) 19 0) 20 50) 21 50) 22 50)))]) rfl dX9_beginsBall_47 (fun H locs hP hD hS => ?_)
  refine lv_iinc (v := 3) (lv' := [(1, .int 3), (0, .ref h0)]) hX hB dX9_beginsBall_48 hl (k := 0) rfl (by decide) (by decide) rfl (fun ls hl => ?_)
  refine lv_goto (tgt := 32) hX hB dX9_beginsBall_51 (by decide) ?_
  refine lv_iload_n hX hB dX9_beginsBall_32 rfl (lv_at hl 0 rfl) ?_
  refine lv_iconst (v := 3) hX hB dX9_beginsBall_33 (by decide) ?_
  refine lv_icmp_ge (tgt := 54) hX hB dX9_beginsBall_34 (by decide) (fun _ => ?_) (fun c => absurd (by decide) c)
  refine lv_iconst (v := 0) hX hB dX9_beginsBall_54 (by decide) ?_
  refine lv_istore_n (lv' := [(1, .int 0), (0, .ref h0)]) hX hB dX9_beginsBall_55 rfl hl (by decide) rfl (fun ls hl => ?_)
  refine lv_iload_n hX hB dX9_beginsBall_56 rfl (lv_at hl 0 rfl) ?_
  refine lv_iconst (v := 5) hX hB dX9_beginsBall_57 (by decide) ?_
  refine lv_icmp_ge (tgt := 77) hX hB dX9_beginsBall_58 (by decide) (fun c => absurd c (by decide)) (fun _ => ?_)
  refine lv_aload_n hX hB dX9_beginsBall_61 rfl (lv_at hl 1 rfl) ?_
  refine fg_X9_7 C hP 0 rfl rfl dX9_beginsBall_62 ?_
  refine lv_bipush (v := 24) hX hB dX9_beginsBall_65 (by decide) ?_
  refine lv_iload_n hX hB dX9_beginsBall_67 rfl (lv_at hl 0 rfl) ?_
  refine z_iadd (v := 24) C dX9_beginsBall_68 (by decide) ?_
  refine lv_iconst (v := 0) hX hB dX9_beginsBall_69 (by decide) ?_
  refine z_iast C hP hD hS 1 rfl (k := 24) (zlit 24) (by decide) (by decide) (w' := [(h0, .inr (11, [.ref h1, .ref h2, .ref h3, .ref h4, .ref h5, .int v1, .int v2, .int v3, .int v4, .int v5, .ref h6, .int v6, .ref h7, .ref h8, .ref h9, .int v7, .int v8, .int v9, .int v10, .int v11])), (h1, .inl (cy 0, 64, .inl (upd (upd (upd (upd (upd (upd (upd (upd (upd g 5 1) 16 0) 17 0) 18 0) 19 0) 20 50) 21 50) 22 50) 24 0)))]) rfl dX9_beginsBall_70 (fun H locs hP hD hS => ?_)
  refine lv_iinc (v := 1) (lv' := [(1, .int 1), (0, .ref h0)]) hX hB dX9_beginsBall_71 hl (k := 0) rfl (by decide) (by decide) rfl (fun ls hl => ?_)
  refine lv_goto (tgt := 56) hX hB dX9_beginsBall_74 (by decide) ?_
  refine lv_iload_n hX hB dX9_beginsBall_56 rfl (lv_at hl 0 rfl) ?_
  refine lv_iconst (v := 5) hX hB dX9_beginsBall_57 (by decide) ?_
  refine lv_icmp_ge (tgt := 77) hX hB dX9_beginsBall_58 (by decide) (fun c => absurd c (by decide)) (fun _ => ?_)
  refine lv_aload_n hX hB dX9_beginsBall_61 rfl (lv_at hl 1 rfl) ?_
  refine fg_X9_7 C hP 0 rfl rfl dX9_beginsBall_62 ?_
  refine lv_bipush (v := 24) hX hB dX9_beginsBall_65 (by decide) ?_
  refine lv_iload_n hX hB dX9_beginsBall_67 rfl (lv_at hl 0 rfl) ?_
  refine z_iadd (v := 25) C dX9_beginsBall_68 (by decide) ?_
  refine lv_iconst (v := 0) hX hB dX9_beginsBall_69 (by decide) ?_
  refine z_iast C hP hD hS 1 rfl (k := 25) (zlit 25) (by decide) (by decide) (w' := [(h0, .inr (11, [.ref h1, .ref h2, .ref h3, .ref h4, .ref h5, .int v1, .int v2, .int v3, .int v4, .int v5, .ref h6, .int v6, .ref h7, .ref h8, .ref h9, .int v7, .int v8, .int v9, .int v10, .int v11])), (h1, .inl (cy 0, 64, .inl (upd (upd (upd (upd (upd (upd (upd (upd (upd (upd g 5 1) 16 0) 17 0) 18 0) 19 0) 20 50) 21 50) 22 50) 24 0) 25 0)))]) rfl dX9_beginsBall_70 (fun H locs hP hD hS => ?_)
  refine lv_iinc (v := 2) (lv' := [(1, .int 2), (0, .ref h0)]) hX hB dX9_beginsBall_71 hl (k := 0) rfl (by decide) (by decide) rfl (fun ls hl => ?_)
  refine lv_goto (tgt := 56) hX hB dX9_beginsBall_74 (by decide) ?_
  refine lv_iload_n hX hB dX9_beginsBall_56 rfl (lv_at hl 0 rfl) ?_
  refine lv_iconst (v := 5) hX hB dX9_beginsBall_57 (by decide) ?_
  refine lv_icmp_ge (tgt := 77) hX hB dX9_beginsBall_58 (by decide) (fun c => absurd c (by decide)) (fun _ => ?_)
  refine lv_aload_n hX hB dX9_beginsBall_61 rfl (lv_at hl 1 rfl) ?_
  refine fg_X9_7 C hP 0 rfl rfl dX9_beginsBall_62 ?_
  refine lv_bipush (v := 24) hX hB dX9_beginsBall_65 (by decide) ?_
  refine lv_iload_n hX hB dX9_beginsBall_67 rfl (lv_at hl 0 rfl) ?_
  refine z_iadd (v := 26) C dX9_beginsBall_68 (by decide) ?_
  refine lv_iconst (v := 0) hX hB dX9_beginsBall_69 (by decide) ?_
  refine z_iast C hP hD hS 1 rfl (k := 26) (zlit 26) (by decide) (by decide) (w' := [(h0, .inr (11, [.ref h1, .ref h2, .ref h3, .ref h4, .ref h5, .int v1, .int v2, .int v3, .int v4, .int v5, .ref h6, .int v6, .ref h7, .ref h8, .ref h9, .int v7, .int v8, .int v9, .int v10, .int v11])), (h1, .inl (cy 0, 64, .inl (upd (upd (upd (upd (upd (upd (upd (upd (upd (upd (upd g 5 1) 16 0) 17 0) 18 0) 19 0) 20 50) 21 50) 22 50) 24 0) 25 0) 26 0)))]) rfl dX9_beginsBall_70 (fun H locs hP hD hS => ?_)
  refine lv_iinc (v := 3) (lv' := [(1, .int 3), (0, .ref h0)]) hX hB dX9_beginsBall_71 hl (k := 0) rfl (by decide) (by decide) rfl (fun ls hl => ?_)
  refine lv_goto (tgt := 56) hX hB dX9_beginsBall_74 (by decide) ?_
  refine lv_iload_n hX hB dX9_beginsBall_56 rfl (lv_at hl 0 rfl) ?_
  refine lv_iconst (v := 5) hX hB dX9_beginsBall_57 (by decide) ?_
  refine lv_icmp_ge (tgt := 77) hX hB dX9_beginsBall_58 (by decide) (fun c => absurd c (by decide)) (fun _ => ?_)
  refine lv_aload_n hX hB dX9_beginsBall_61 rfl (lv_at hl 1 rfl) ?_
  refine fg_X9_7 C hP 0 rfl rfl dX9_beginsBall_62 ?_
  refine lv_bipush (v := 24) hX hB dX9_beginsBall_65 (by decide) ?_
  refine lv_iload_n hX hB dX9_beginsBall_67 rfl (lv_at hl 0 rfl) ?_
  refine z_iadd (v := 27) C dX9_beginsBall_68 (by decide) ?_
  refine lv_iconst (v := 0) hX hB dX9_beginsBall_69 (by decide) ?_
  refine z_iast C hP hD hS 1 rfl (k := 27) (zlit 27) (by decide) (by decide) (w' := [(h0, .inr (11, [.ref h1, .ref h2, .ref h3, .ref h4, .ref h5, .int v1, .int v2, .int v3, .int v4, .int v5, .ref h6, .int v6, .ref h7, .ref h8, .ref h9, .int v7, .int v8, .int v9, .int v10, .int v11])), (h1, .inl (cy 0, 64, .inl (upd (upd (upd (upd (upd (upd (upd (upd (upd (upd (upd (upd g 5 1) 16 0) 17 0) 18 0) 19 0) 20 50) 21 50) 22 50) 24 0) 25 0) 26 0) 27 0)))]) rfl dX9_beginsBall_70 (fun H locs hP hD hS => ?_)
  refine lv_iinc (v := 4) (lv' := [(1, .int 4), (0, .ref h0)]) hX hB dX9_beginsBall_71 hl (k := 0) rfl (by decide) (by decide) rfl (fun ls hl => ?_)
  refine lv_goto (tgt := 56) hX hB dX9_beginsBall_74 (by decide) ?_
  refine lv_iload_n hX hB dX9_beginsBall_56 rfl (lv_at hl 0 rfl) ?_
  refine lv_iconst (v := 5) hX hB dX9_beginsBall_57 (by decide) ?_
  refine lv_icmp_ge (tgt := 77) hX hB dX9_beginsBall_58 (by decide) (fun c => absurd c (by decide)) (fun _ => ?_)
  refine lv_aload_n hX hB dX9_beginsBall_61 rfl (lv_at hl 1 rfl) ?_
  refine fg_X9_7 C hP 0 rfl rfl dX9_beginsBall_62 ?_
  refine lv_bipush (v := 24) hX hB dX9_beginsBall_65 (by decide) ?_
  refine lv_iload_n hX hB dX9_beginsBall_67 rfl (lv_at hl 0 rfl) ?_
  refine z_iadd (v := 28) C dX9_beginsBall_68 (by decide) ?_
  refine lv_iconst (v := 0) hX hB dX9_beginsBall_69 (by decide) ?_
  refine z_iast C hP hD hS 1 rfl (k := 28) (zlit 28) (by decide) (by decide) (w' := [(h0, .inr (11, [.ref h1, .ref h2, .ref h3, .ref h4, .ref h5, .int v1, .int v2, .int v3, .int v4, .int v5, .ref h6, .int v6, .ref h7, .ref h8, .ref h9, .int v7, .int v8, .int v9, .int v10, .int v11])), (h1, .inl (cy 0, 64, .inl (upd (upd (upd (upd (upd (upd (upd (upd (upd (upd (upd (upd (upd g 5 1) 16 0) 17 0) 18 0) 19 0) 20 50) 21 50) 22 50) 24 0) 25 0) 26 0) 27 0) 28 0)))]) rfl dX9_beginsBall_70 (fun H locs hP hD hS => ?_)
  refine lv_iinc (v := 5) (lv' := [(1, .int 5), (0, .ref h0)]) hX hB dX9_beginsBall_71 hl (k := 0) rfl (by decide) (by decide) rfl (fun ls hl => ?_)
  refine lv_goto (tgt := 56) hX hB dX9_beginsBall_74 (by decide) ?_
  refine lv_iload_n hX hB dX9_beginsBall_56 rfl (lv_at hl 0 rfl) ?_
  refine lv_iconst (v := 5) hX hB dX9_beginsBall_57 (by decide) ?_
  refine lv_icmp_ge (tgt := 77) hX hB dX9_beginsBall_58 (by decide) (fun _ => ?_) (fun c => absurd (by decide) c)
  refine lv_aload_n hX hB dX9_beginsBall_77 rfl (lv_at hl 1 rfl) ?_
  refine fg_X9_7 C hP 0 rfl rfl dX9_beginsBall_78 ?_
  refine lv_bipush (v := 6) hX hB dX9_beginsBall_81 (by decide) ?_
  refine lv_iconst (v := 0) hX hB dX9_beginsBall_83 (by decide) ?_
  refine z_iast C hP hD hS 1 rfl (k := 6) (zlit 6) (by decide) (by decide) (w' := [(h0, .inr (11, [.ref h1, .ref h2, .ref h3, .ref h4, .ref h5, .int v1, .int v2, .int v3, .int v4, .int v5, .ref h6, .int v6, .ref h7, .ref h8, .ref h9, .int v7, .int v8, .int v9, .int v10, .int v11])), (h1, .inl (cy 0, 64, .inl (upd (upd (upd (upd (upd (upd (upd (upd (upd (upd (upd (upd (upd (upd g 5 1) 16 0) 17 0) 18 0) 19 0) 20 50) 21 50) 22 50) 24 0) 25 0) 26 0) 27 0) 28 0) 6 0)))]) rfl dX9_beginsBall_84 (fun H locs hP hD hS => ?_)
  refine lv_aload_n hX hB dX9_beginsBall_85 rfl (lv_at hl 1 rfl) ?_
  refine fg_X9_7 C hP 0 rfl rfl dX9_beginsBall_86 ?_
  refine lv_bipush (v := 7) hX hB dX9_beginsBall_89 (by decide) ?_
  refine lv_iconst (v := 0) hX hB dX9_beginsBall_91 (by decide) ?_
  refine z_iast C hP hD hS 1 rfl (k := 7) (zlit 7) (by decide) (by decide) (w' := [(h0, .inr (11, [.ref h1, .ref h2, .ref h3, .ref h4, .ref h5, .int v1, .int v2, .int v3, .int v4, .int v5, .ref h6, .int v6, .ref h7, .ref h8, .ref h9, .int v7, .int v8, .int v9, .int v10, .int v11])), (h1, .inl (cy 0, 64, .inl (upd (upd (upd (upd (upd (upd (upd (upd (upd (upd (upd (upd (upd (upd (upd g 5 1) 16 0) 17 0) 18 0) 19 0) 20 50) 21 50) 22 50) 24 0) 25 0) 26 0) 27 0) 28 0) 6 0) 7 0)))]) rfl dX9_beginsBall_92 (fun H locs hP hD hS => ?_)
  refine lv_aload_n hX hB dX9_beginsBall_93 rfl (lv_at hl 1 rfl) ?_
  refine fg_X9_7 C hP 0 rfl rfl dX9_beginsBall_94 ?_
  refine lv_bipush (v := 8) hX hB dX9_beginsBall_97 (by decide) ?_
  refine lv_iconst (v := 0) hX hB dX9_beginsBall_99 (by decide) ?_
  refine z_iast C hP hD hS 1 rfl (k := 8) (zlit 8) (by decide) (by decide) (w' := [(h0, .inr (11, [.ref h1, .ref h2, .ref h3, .ref h4, .ref h5, .int v1, .int v2, .int v3, .int v4, .int v5, .ref h6, .int v6, .ref h7, .ref h8, .ref h9, .int v7, .int v8, .int v9, .int v10, .int v11])), (h1, .inl (cy 0, 64, .inl (upd (upd (upd (upd (upd (upd (upd (upd (upd (upd (upd (upd (upd (upd (upd (upd g 5 1) 16 0) 17 0) 18 0) 19 0) 20 50) 21 50) 22 50) 24 0) 25 0) 26 0) 27 0) 28 0) 6 0) 7 0) 8 0)))]) rfl dX9_beginsBall_100 (fun H locs hP hD hS => ?_)
  refine lv_aload_n hX hB dX9_beginsBall_101 rfl (lv_at hl 1 rfl) ?_
  refine fg_X9_7 C hP 0 rfl rfl dX9_beginsBall_102 ?_
  refine lv_bipush (v := 9) hX hB dX9_beginsBall_105 (by decide) ?_
  refine lv_iconst (v := 0) hX hB dX9_beginsBall_107 (by decide) ?_
  refine z_iast C hP hD hS 1 rfl (k := 9) (zlit 9) (by decide) (by decide) (w' := [(h0, .inr (11, [.ref h1, .ref h2, .ref h3, .ref h4, .ref h5, .int v1, .int v2, .int v3, .int v4, .int v5, .ref h6, .int v6, .ref h7, .ref h8, .ref h9, .int v7, .int v8, .int v9, .int v10, .int v11])), (h1, .inl (cy 0, 64, .inl (upd (upd (upd (upd (upd (upd (upd (upd (upd (upd (upd (upd (upd (upd (upd (upd (upd g 5 1) 16 0) 17 0) 18 0) 19 0) 20 50) 21 50) 22 50) 24 0) 25 0) 26 0) 27 0) 28 0) 6 0) 7 0) 8 0) 9 0)))]) rfl dX9_beginsBall_108 (fun H locs hP hD hS => ?_)
  refine lv_aload_n hX hB dX9_beginsBall_109 rfl (lv_at hl 1 rfl) ?_
  refine fg_X9_7 C hP 0 rfl rfl dX9_beginsBall_110 ?_
  refine lv_bipush (v := 10) hX hB dX9_beginsBall_113 (by decide) ?_
  refine lv_iconst (v := 0) hX hB dX9_beginsBall_115 (by decide) ?_
  refine z_iast C hP hD hS 1 rfl (k := 10) (zlit 10) (by decide) (by decide) (w' := [(h0, .inr (11, [.ref h1, .ref h2, .ref h3, .ref h4, .ref h5, .int v1, .int v2, .int v3, .int v4, .int v5, .ref h6, .int v6, .ref h7, .ref h8, .ref h9, .int v7, .int v8, .int v9, .int v10, .int v11])), (h1, .inl (cy 0, 64, .inl (upd (upd (upd (upd (upd (upd (upd (upd (upd (upd (upd (upd (upd (upd (upd (upd (upd (upd g 5 1) 16 0) 17 0) 18 0) 19 0) 20 50) 21 50) 22 50) 24 0) 25 0) 26 0) 27 0) 28 0) 6 0) 7 0) 8 0) 9 0) 10 0)))]) rfl dX9_beginsBall_116 (fun H locs hP hD hS => ?_)
  refine lv_aload_n hX hB dX9_beginsBall_117 rfl (lv_at hl 1 rfl) ?_
  refine fg_X9_7 C hP 0 rfl rfl dX9_beginsBall_118 ?_
  refine lv_bipush (v := 11) hX hB dX9_beginsBall_121 (by decide) ?_
  refine lv_iconst (v := 0) hX hB dX9_beginsBall_123 (by decide) ?_
  refine z_iast C hP hD hS 1 rfl (k := 11) (zlit 11) (by decide) (by decide) (w' := [(h0, .inr (11, [.ref h1, .ref h2, .ref h3, .ref h4, .ref h5, .int v1, .int v2, .int v3, .int v4, .int v5, .ref h6, .int v6, .ref h7, .ref h8, .ref h9, .int v7, .int v8, .int v9, .int v10, .int v11])), (h1, .inl (cy 0, 64, .inl (upd (upd (upd (upd (upd (upd (upd (upd (upd (upd (upd (upd (upd (upd (upd (upd (upd (upd (upd g 5 1) 16 0) 17 0) 18 0) 19 0) 20 50) 21 50) 22 50) 24 0) 25 0) 26 0) 27 0) 28 0) 6 0) 7 0) 8 0) 9 0) 10 0) 11 0)))]) rfl dX9_beginsBall_124 (fun H locs hP hD hS => ?_)
  refine lv_aload_n hX hB dX9_beginsBall_125 rfl (lv_at hl 1 rfl) ?_
  refine fg_X9_7 C hP 0 rfl rfl dX9_beginsBall_126 ?_
  refine lv_bipush (v := 12) hX hB dX9_beginsBall_129 (by decide) ?_
  refine lv_iconst (v := 0) hX hB dX9_beginsBall_131 (by decide) ?_
  refine z_iast C hP hD hS 1 rfl (k := 12) (zlit 12) (by decide) (by decide) (w' := [(h0, .inr (11, [.ref h1, .ref h2, .ref h3, .ref h4, .ref h5, .int v1, .int v2, .int v3, .int v4, .int v5, .ref h6, .int v6, .ref h7, .ref h8, .ref h9, .int v7, .int v8, .int v9, .int v10, .int v11])), (h1, .inl (cy 0, 64, .inl (upd (upd (upd (upd (upd (upd (upd (upd (upd (upd (upd (upd (upd (upd (upd (upd (upd (upd (upd (upd g 5 1) 16 0) 17 0) 18 0) 19 0) 20 50) 21 50) 22 50) 24 0) 25 0) 26 0) 27 0) 28 0) 6 0) 7 0) 8 0) 9 0) 10 0) 11 0) 12 0)))]) rfl dX9_beginsBall_132 (fun H locs hP hD hS => ?_)
  exact z_vret' (upd (upd (upd (upd (upd (upd (upd (upd (upd (upd (upd (upd (upd (upd (upd (upd (upd (upd (upd (upd g 5 1) 16 0) 17 0) 18 0) 19 0) 20 50) 21 50) 22 50) 24 0) 25 0) 26 0) 27 0) 28 0) 6 0) 7 0) 8 0) 9 0) 10 0) 11 0) 12 0) (w' := q_X9_beginsBall cy h0 h1 h2 h3 h4 h5 h6 h7 h8 h9 v1 v2 v3 v4 v5 v6 v7 v8 v9 v10 v11) (by simp only [n_X9_beginsBall]) C hRT hP hD hS (Nat.le_of_ble_eq_true rfl) (Nat.le_of_ble_eq_true rfl) rfl dX9_beginsBall_133

def q_X9_cannotStart_1 (cy : Nat → ClassId) (h0 : Nat) (h1 : Nat) (h2 : Nat) (h3 : Nat) (h4 : Nat) (h5 : Nat) (h6 : Nat) (h7 : Nat) (h8 : Nat) (h9 : Nat) (v1 : Int32) (v2 : Int32) (v3 : Int32) (v4 : Int32) (v5 : Int32) (v6 : Int32) (v7 : Int32) (v8 : Int32) (v9 : Int32) (v10 : Int32) (v11 : Int32) (g : Nat → Int32) (o : Unit) : va_W := [(h0, .inr (11, [.ref h1, .ref h2, .ref h3, .ref h4, .ref h5, .int v1, .int v2, .int v3, .int v4, .int v5, .ref h6, .int v6, .ref h7, .ref h8, .ref h9, .int v7, .int v8, .int v9, .int v10, .int v11])), (h1, .inl (cy 0, 64, .inl (g)))]
set_option maxHeartbeats 4000000 in
set_option maxRecDepth 100000 in
theorem c_X9_cannotStart_1 (l : Launch) {E : zEn} (hE : zEok E) (D : zG) (cy : Nat → ClassId) (h0 h1 h2 h3 h4 h5 h6 h7 h8 h9 : Nat) (v1 : Int32) (v2 : Int32) (v3 : Int32) (v4 : Int32) (v5 : Int32) (v6 : Int32) (v7 : Int32) (v8 : Int32) (v9 : Int32) (v10 : Int32) (v11 : Int32) (g : Nat → Int32) (hr : g 0 = 1) (sz : Nat) : Met l yX9_cannotStart (zws yX9_cannotStart cX9_cannotStart 1 (some .int)) { frames := 1, cells := 0, slots := 0, locals := 20 } (zPre E D cy [.ref h0] [(h0, .inr (11, [.ref h1, .ref h2, .ref h3, .ref h4, .ref h5, .int v1, .int v2, .int v3, .int v4, .int v5, .ref h6, .int v6, .ref h7, .ref h8, .ref h9, .int v7, .int v8, .int v9, .int v10, .int v11])), (h1, .inl (cy 0, 64, .inl (g)))] sz) (zQi D ((q_X9_cannotStart_1 cy h0 h1 h2 h3 h4 h5 h6 h7 h8 h9 v1 v2 v3 v4 v5 v6 v7 v8 v9 v10 v11 g) ()) (va_A [(h0, .inr (11, [.ref h1, .ref h2, .ref h3, .ref h4, .ref h5, .int v1, .int v2, .int v3, .int v4, .int v5, .ref h6, .int v6, .ref h7, .ref h8, .ref h9, .int v7, .int v8, .int v9, .int v10, .int v11])), (h1, .inl (cy 0, 64, .inl (g)))] sz) (1)) 0 0 (va_A [(h0, .inr (11, [.ref h1, .ref h2, .ref h3, .ref h4, .ref h5, .int v1, .int v2, .int v3, .int v4, .int v5, .ref h6, .int v6, .ref h7, .ref h8, .ref h9, .int v7, .int v8, .int v9, .int v10, .int v11])), (h1, .inl (cy 0, 64, .inl (g)))] sz) := by
  refine z_of (Qc := fun A => zQi D ((q_X9_cannotStart_1 cy h0 h1 h2 h3 h4 h5 h6 h7 h8 h9 v1 v2 v3 v4 v5 v6 v7 v8 v9 v10 v11 g) ()) A (1)) (by decide +kernel) (Nat.le_of_ble_eq_true rfl) rfl ?_
  intro pG eN sT mI below meth cO A ls C hRT hnm hA hP hD hS hE0 hl
  have hX := C.x
  have hB := C.b
  refine lv_aload_n hX hB dX9_cannotStart_0 rfl (lv_at hl 0 rfl) ?_
  refine z_callVi (isC := [0, 1]) (isR := []) (isO := [0, 1]) (()) (q_X9_runs_t cy h0 h1 h2 h3 h4 h5 h6 h7 h8 h9 v1 v2 v3 v4 v5 v6 v7 v8 v9 v10 v11 g) (fun o_1 => [(h0, .inr (11, [.ref h1, .ref h2, .ref h3, .ref h4, .ref h5, .int v1, .int v2, .int v3, .int v4, .int v5, .ref h6, .int v6, .ref h7, .ref h8, .ref h9, .int v7, .int v8, .int v9, .int v10, .int v11])), (h1, .inl (cy 0, 64, .inl (g)))]) (fun o_1 => 1) (c_X9_runs_t l hE D cy h0 h1 h2 h3 h4 h5 h6 h7 h8 h9 v1 v2 v3 v4 v5 v6 v7 v8 v9 v10 v11 g hr) hE C zs_X9_76 ⟨Nat.le_of_ble_eq_true rfl, Nat.le_of_ble_eq_true rfl⟩ hP hD hS hA hE0 ⟨rfl, rfl, rfl, by decide, rfl, rfl, rfl⟩ 0 rfl rfl rfl rfl hl.1 (Nat.le_of_ble_eq_true rfl) rfl dX9_cannotStart_1 ⟨Nat.le_of_ble_eq_true rfl, Nat.le_of_ble_eq_true rfl⟩ (fun o_1 H locs eo_1 hP hD hS => ?_)
  refine lv_if_eq (tgt := 11) hX hB dX9_cannotStart_4 (by decide) (fun c => absurd c (by decide)) (fun _ => ?_)
  refine lv_iconst (v := 1) hX hB dX9_cannotStart_7 (by decide) ?_
  refine lv_goto (tgt := 25) hX hB dX9_cannotStart_8 (by decide) ?_
  exact z_iret' () (w' := q_X9_cannotStart_1 cy h0 h1 h2 h3 h4 h5 h6 h7 h8 h9 v1 v2 v3 v4 v5 v6 v7 v8 v9 v10 v11 g) (r0 := (fun (o : Unit) => 1)) rfl C hRT hP hD hS (Nat.le_of_ble_eq_true rfl) (Nat.le_of_ble_eq_true rfl) rfl rfl dX9_cannotStart_25

def q_X9_cannotStart_2 (cy : Nat → ClassId) (h0 : Nat) (h1 : Nat) (h2 : Nat) (h3 : Nat) (h4 : Nat) (h5 : Nat) (h6 : Nat) (h7 : Nat) (h8 : Nat) (h9 : Nat) (v1 : Int32) (v2 : Int32) (v3 : Int32) (v4 : Int32) (v5 : Int32) (v6 : Int32) (v7 : Int32) (v8 : Int32) (v9 : Int32) (v10 : Int32) (v11 : Int32) (g : Nat → Int32) (o : Unit) : va_W := [(h0, .inr (11, [.ref h1, .ref h2, .ref h3, .ref h4, .ref h5, .int v1, .int v2, .int v3, .int v4, .int v5, .ref h6, .int v6, .ref h7, .ref h8, .ref h9, .int v7, .int v8, .int v9, .int v10, .int v11])), (h1, .inl (cy 0, 64, .inl (g)))]
set_option maxHeartbeats 4000000 in
set_option maxRecDepth 100000 in
theorem c_X9_cannotStart_2 (l : Launch) {E : zEn} (hE : zEok E) (D : zG) (cy : Nat → ClassId) (h0 h1 h2 h3 h4 h5 h6 h7 h8 h9 : Nat) (v1 : Int32) (v2 : Int32) (v3 : Int32) (v4 : Int32) (v5 : Int32) (v6 : Int32) (v7 : Int32) (v8 : Int32) (v9 : Int32) (v10 : Int32) (v11 : Int32) (g : Nat → Int32) (hr : ¬ g 0 = 1) (hq : g 2 = 0) (sz : Nat) : Met l yX9_cannotStart (zws yX9_cannotStart cX9_cannotStart 1 (some .int)) { frames := 1, cells := 0, slots := 0, locals := 20 } (zPre E D cy [.ref h0] [(h0, .inr (11, [.ref h1, .ref h2, .ref h3, .ref h4, .ref h5, .int v1, .int v2, .int v3, .int v4, .int v5, .ref h6, .int v6, .ref h7, .ref h8, .ref h9, .int v7, .int v8, .int v9, .int v10, .int v11])), (h1, .inl (cy 0, 64, .inl (g)))] sz) (zQi D ((q_X9_cannotStart_2 cy h0 h1 h2 h3 h4 h5 h6 h7 h8 h9 v1 v2 v3 v4 v5 v6 v7 v8 v9 v10 v11 g) ()) (va_A [(h0, .inr (11, [.ref h1, .ref h2, .ref h3, .ref h4, .ref h5, .int v1, .int v2, .int v3, .int v4, .int v5, .ref h6, .int v6, .ref h7, .ref h8, .ref h9, .int v7, .int v8, .int v9, .int v10, .int v11])), (h1, .inl (cy 0, 64, .inl (g)))] sz) (2)) 0 0 (va_A [(h0, .inr (11, [.ref h1, .ref h2, .ref h3, .ref h4, .ref h5, .int v1, .int v2, .int v3, .int v4, .int v5, .ref h6, .int v6, .ref h7, .ref h8, .ref h9, .int v7, .int v8, .int v9, .int v10, .int v11])), (h1, .inl (cy 0, 64, .inl (g)))] sz) := by
  refine z_of (Qc := fun A => zQi D ((q_X9_cannotStart_2 cy h0 h1 h2 h3 h4 h5 h6 h7 h8 h9 v1 v2 v3 v4 v5 v6 v7 v8 v9 v10 v11 g) ()) A (2)) (by decide +kernel) (Nat.le_of_ble_eq_true rfl) rfl ?_
  intro pG eN sT mI below meth cO A ls C hRT hnm hA hP hD hS hE0 hl
  have hX := C.x
  have hB := C.b
  refine lv_aload_n hX hB dX9_cannotStart_0 rfl (lv_at hl 0 rfl) ?_
  refine z_callVi (isC := [0, 1]) (isR := []) (isO := [0, 1]) (()) (q_X9_runs_f cy h0 h1 h2 h3 h4 h5 h6 h7 h8 h9 v1 v2 v3 v4 v5 v6 v7 v8 v9 v10 v11 g) (fun o_1 => [(h0, .inr (11, [.ref h1, .ref h2, .ref h3, .ref h4, .ref h5, .int v1, .int v2, .int v3, .int v4, .int v5, .ref h6, .int v6, .ref h7, .ref h8, .ref h9, .int v7, .int v8, .int v9, .int v10, .int v11])), (h1, .inl (cy 0, 64, .inl (g)))]) (fun o_1 => 0) (c_X9_runs_f l hE D cy h0 h1 h2 h3 h4 h5 h6 h7 h8 h9 v1 v2 v3 v4 v5 v6 v7 v8 v9 v10 v11 g hr) hE C zs_X9_76 ⟨Nat.le_of_ble_eq_true rfl, Nat.le_of_ble_eq_true rfl⟩ hP hD hS hA hE0 ⟨rfl, rfl, rfl, by decide, rfl, rfl, rfl⟩ 0 rfl rfl rfl rfl hl.1 (Nat.le_of_ble_eq_true rfl) rfl dX9_cannotStart_1 ⟨Nat.le_of_ble_eq_true rfl, Nat.le_of_ble_eq_true rfl⟩ (fun o_1 H locs eo_1 hP hD hS => ?_)
  refine lv_if_eq (tgt := 11) hX hB dX9_cannotStart_4 (by decide) (fun _ => ?_) (fun c => absurd (by decide) c)
  refine lv_aload_n hX hB dX9_cannotStart_11 rfl (lv_at hl 0 rfl) ?_
  refine fg_X9_7 C hP 0 rfl rfl dX9_cannotStart_12 ?_
  refine lv_iconst (v := 2) hX hB dX9_cannotStart_15 (by decide) ?_
  refine z_iald C hP 1 rfl (k := 2) (zlit 2) (by decide) (by decide) (v := g 2) rfl dX9_cannotStart_16 ?_
  refine lv_if_ne (tgt := 24) hX hB dX9_cannotStart_17 (by decide) (fun c => absurd hq c) (fun _ => ?_)
  refine lv_iconst (v := 2) hX hB dX9_cannotStart_20 (by decide) ?_
  refine lv_goto (tgt := 25) hX hB dX9_cannotStart_21 (by decide) ?_
  exact z_iret' () (w' := q_X9_cannotStart_2 cy h0 h1 h2 h3 h4 h5 h6 h7 h8 h9 v1 v2 v3 v4 v5 v6 v7 v8 v9 v10 v11 g) (r0 := (fun (o : Unit) => 2)) rfl C hRT hP hD hS (Nat.le_of_ble_eq_true rfl) (Nat.le_of_ble_eq_true rfl) rfl rfl dX9_cannotStart_25

def q_X9_cannotStart_ok (cy : Nat → ClassId) (h0 : Nat) (h1 : Nat) (h2 : Nat) (h3 : Nat) (h4 : Nat) (h5 : Nat) (h6 : Nat) (h7 : Nat) (h8 : Nat) (h9 : Nat) (v1 : Int32) (v2 : Int32) (v3 : Int32) (v4 : Int32) (v5 : Int32) (v6 : Int32) (v7 : Int32) (v8 : Int32) (v9 : Int32) (v10 : Int32) (v11 : Int32) (g : Nat → Int32) (o : Unit) : va_W := [(h0, .inr (11, [.ref h1, .ref h2, .ref h3, .ref h4, .ref h5, .int v1, .int v2, .int v3, .int v4, .int v5, .ref h6, .int v6, .ref h7, .ref h8, .ref h9, .int v7, .int v8, .int v9, .int v10, .int v11])), (h1, .inl (cy 0, 64, .inl (g)))]
set_option maxHeartbeats 4000000 in
set_option maxRecDepth 100000 in
theorem c_X9_cannotStart_ok (l : Launch) {E : zEn} (hE : zEok E) (D : zG) (cy : Nat → ClassId) (h0 h1 h2 h3 h4 h5 h6 h7 h8 h9 : Nat) (v1 : Int32) (v2 : Int32) (v3 : Int32) (v4 : Int32) (v5 : Int32) (v6 : Int32) (v7 : Int32) (v8 : Int32) (v9 : Int32) (v10 : Int32) (v11 : Int32) (g : Nat → Int32) (hr : ¬ g 0 = 1) (hq : ¬ g 2 = 0) (sz : Nat) : Met l yX9_cannotStart (zws yX9_cannotStart cX9_cannotStart 1 (some .int)) { frames := 1, cells := 0, slots := 0, locals := 20 } (zPre E D cy [.ref h0] [(h0, .inr (11, [.ref h1, .ref h2, .ref h3, .ref h4, .ref h5, .int v1, .int v2, .int v3, .int v4, .int v5, .ref h6, .int v6, .ref h7, .ref h8, .ref h9, .int v7, .int v8, .int v9, .int v10, .int v11])), (h1, .inl (cy 0, 64, .inl (g)))] sz) (zQi D ((q_X9_cannotStart_ok cy h0 h1 h2 h3 h4 h5 h6 h7 h8 h9 v1 v2 v3 v4 v5 v6 v7 v8 v9 v10 v11 g) ()) (va_A [(h0, .inr (11, [.ref h1, .ref h2, .ref h3, .ref h4, .ref h5, .int v1, .int v2, .int v3, .int v4, .int v5, .ref h6, .int v6, .ref h7, .ref h8, .ref h9, .int v7, .int v8, .int v9, .int v10, .int v11])), (h1, .inl (cy 0, 64, .inl (g)))] sz) (0)) 0 0 (va_A [(h0, .inr (11, [.ref h1, .ref h2, .ref h3, .ref h4, .ref h5, .int v1, .int v2, .int v3, .int v4, .int v5, .ref h6, .int v6, .ref h7, .ref h8, .ref h9, .int v7, .int v8, .int v9, .int v10, .int v11])), (h1, .inl (cy 0, 64, .inl (g)))] sz) := by
  refine z_of (Qc := fun A => zQi D ((q_X9_cannotStart_ok cy h0 h1 h2 h3 h4 h5 h6 h7 h8 h9 v1 v2 v3 v4 v5 v6 v7 v8 v9 v10 v11 g) ()) A (0)) (by decide +kernel) (Nat.le_of_ble_eq_true rfl) rfl ?_
  intro pG eN sT mI below meth cO A ls C hRT hnm hA hP hD hS hE0 hl
  have hX := C.x
  have hB := C.b
  refine lv_aload_n hX hB dX9_cannotStart_0 rfl (lv_at hl 0 rfl) ?_
  refine z_callVi (isC := [0, 1]) (isR := []) (isO := [0, 1]) (()) (q_X9_runs_f cy h0 h1 h2 h3 h4 h5 h6 h7 h8 h9 v1 v2 v3 v4 v5 v6 v7 v8 v9 v10 v11 g) (fun o_1 => [(h0, .inr (11, [.ref h1, .ref h2, .ref h3, .ref h4, .ref h5, .int v1, .int v2, .int v3, .int v4, .int v5, .ref h6, .int v6, .ref h7, .ref h8, .ref h9, .int v7, .int v8, .int v9, .int v10, .int v11])), (h1, .inl (cy 0, 64, .inl (g)))]) (fun o_1 => 0) (c_X9_runs_f l hE D cy h0 h1 h2 h3 h4 h5 h6 h7 h8 h9 v1 v2 v3 v4 v5 v6 v7 v8 v9 v10 v11 g hr) hE C zs_X9_76 ⟨Nat.le_of_ble_eq_true rfl, Nat.le_of_ble_eq_true rfl⟩ hP hD hS hA hE0 ⟨rfl, rfl, rfl, by decide, rfl, rfl, rfl⟩ 0 rfl rfl rfl rfl hl.1 (Nat.le_of_ble_eq_true rfl) rfl dX9_cannotStart_1 ⟨Nat.le_of_ble_eq_true rfl, Nat.le_of_ble_eq_true rfl⟩ (fun o_1 H locs eo_1 hP hD hS => ?_)
  refine lv_if_eq (tgt := 11) hX hB dX9_cannotStart_4 (by decide) (fun _ => ?_) (fun c => absurd (by decide) c)
  refine lv_aload_n hX hB dX9_cannotStart_11 rfl (lv_at hl 0 rfl) ?_
  refine fg_X9_7 C hP 0 rfl rfl dX9_cannotStart_12 ?_
  refine lv_iconst (v := 2) hX hB dX9_cannotStart_15 (by decide) ?_
  refine z_iald C hP 1 rfl (k := 2) (zlit 2) (by decide) (by decide) (v := g 2) rfl dX9_cannotStart_16 ?_
  refine lv_if_ne (tgt := 24) hX hB dX9_cannotStart_17 (by decide) (fun _ => ?_) (fun c => absurd c hq)
  refine lv_iconst (v := 0) hX hB dX9_cannotStart_24 (by decide) ?_
  exact z_iret' () (w' := q_X9_cannotStart_ok cy h0 h1 h2 h3 h4 h5 h6 h7 h8 h9 v1 v2 v3 v4 v5 v6 v7 v8 v9 v10 v11 g) (r0 := (fun (o : Unit) => 0)) rfl C hRT hP hD hS (Nat.le_of_ble_eq_true rfl) (Nat.le_of_ble_eq_true rfl) rfl rfl dX9_cannotStart_25

def n_X9_starts (g : Nat → Int32) : Int32 × (Nat → Int32) :=
  let o_1 := n_X9_beginsBall (upd (upd (upd (upd (upd (upd (upd (upd (upd (upd (upd (upd (upd (upd (upd (upd g 30 0) 34 0) 38 0) 31 0) 35 0) 39 0) 32 0) 36 0) 40 0) 33 0) 37 0) 41 0) 0 1) 3 0) 4 1) 1 ((g 1) + 1))
  ((g 1) + 1, o_1)
def q_X9_starts (cy : Nat → ClassId) (h0 : Nat) (h1 : Nat) (h2 : Nat) (h3 : Nat) (h4 : Nat) (h5 : Nat) (h6 : Nat) (h7 : Nat) (h8 : Nat) (h9 : Nat) (v1 : Int32) (v2 : Int32) (v3 : Int32) (v4 : Int32) (v5 : Int32) (v6 : Int32) (v7 : Int32) (v8 : Int32) (v9 : Int32) (v10 : Int32) (v11 : Int32) (o : Int32 × (Nat → Int32)) : va_W := [(h0, .inr (11, [.ref h1, .ref h2, .ref h3, .ref h4, .ref h5, .int v1, .int v2, .int v3, .int v4, .int v5, .ref h6, .int v6, .ref h7, .ref h8, .ref h9, .int v7, .int v8, .int v9, .int v10, .int v11])), (h1, .inl (cy 0, 64, .inl (o.2)))]
theorem k_X9_starts (g : Nat → Int32)  (j : Nat) (hj : ¬ (0 ≤ j ∧ j ≤ 1) ∧ ¬ (3 ≤ j ∧ j ≤ 12) ∧ ¬ (16 ≤ j ∧ j ≤ 22) ∧ ¬ (24 ≤ j ∧ j ≤ 28) ∧ ¬ (30 ≤ j ∧ j ≤ 41)) : (n_X9_starts g).2 j = g j := by
  simp only [n_X9_starts]
  repeat (any_goals split)
  all_goals (try simp (disch := omega) only [pk_un, k_X9_beginsBall])
set_option maxHeartbeats 4000000 in
set_option maxRecDepth 100000 in
theorem c_X9_starts (l : Launch) {E : zEn} (hE : zEok E) (D : zG) (cy : Nat → ClassId) (h0 h1 h2 h3 h4 h5 h6 h7 h8 h9 : Nat) (v1 : Int32) (v2 : Int32) (v3 : Int32) (v4 : Int32) (v5 : Int32) (v6 : Int32) (v7 : Int32) (v8 : Int32) (v9 : Int32) (v10 : Int32) (v11 : Int32) (g : Nat → Int32)  (sz : Nat) : Met l yX9_starts (zws yX9_starts cX9_starts 2 (some .int)) { frames := 1, cells := 0, slots := 0, locals := 21 } (zPre E D cy [.ref h0] [(h0, .inr (11, [.ref h1, .ref h2, .ref h3, .ref h4, .ref h5, .int v1, .int v2, .int v3, .int v4, .int v5, .ref h6, .int v6, .ref h7, .ref h8, .ref h9, .int v7, .int v8, .int v9, .int v10, .int v11])), (h1, .inl (cy 0, 64, .inl (g)))] sz) (zQi D ((q_X9_starts cy h0 h1 h2 h3 h4 h5 h6 h7 h8 h9 v1 v2 v3 v4 v5 v6 v7 v8 v9 v10 v11) (n_X9_starts g)) (va_A [(h0, .inr (11, [.ref h1, .ref h2, .ref h3, .ref h4, .ref h5, .int v1, .int v2, .int v3, .int v4, .int v5, .ref h6, .int v6, .ref h7, .ref h8, .ref h9, .int v7, .int v8, .int v9, .int v10, .int v11])), (h1, .inl (cy 0, 64, .inl (g)))] sz) ((n_X9_starts g).1)) 0 0 (va_A [(h0, .inr (11, [.ref h1, .ref h2, .ref h3, .ref h4, .ref h5, .int v1, .int v2, .int v3, .int v4, .int v5, .ref h6, .int v6, .ref h7, .ref h8, .ref h9, .int v7, .int v8, .int v9, .int v10, .int v11])), (h1, .inl (cy 0, 64, .inl (g)))] sz) := by
  refine z_of (Qc := fun A => zQi D ((q_X9_starts cy h0 h1 h2 h3 h4 h5 h6 h7 h8 h9 v1 v2 v3 v4 v5 v6 v7 v8 v9 v10 v11) (n_X9_starts g)) A ((n_X9_starts g).1)) (by decide +kernel) (Nat.le_of_ble_eq_true rfl) rfl ?_
  intro pG eN sT mI below meth cO A ls C hRT hnm hA hP hD hS hE0 hl
  have hX := C.x
  have hB := C.b
  refine lv_iconst (v := 0) hX hB dX9_starts_0 (by decide) ?_
  refine lv_istore_n (lv' := [(1, .int 0), (0, .ref h0)]) hX hB dX9_starts_1 rfl hl (by decide) rfl (fun ls hl => ?_)
  refine lv_iload_n hX hB dX9_starts_2 rfl (lv_at hl 0 rfl) ?_
  refine lv_iconst (v := 4) hX hB dX9_starts_3 (by decide) ?_
  refine lv_icmp_ge (tgt := 43) hX hB dX9_starts_4 (by decide) (fun c => absurd c (by decide)) (fun _ => ?_)
  refine lv_aload_n hX hB dX9_starts_7 rfl (lv_at hl 1 rfl) ?_
  refine fg_X9_7 C hP 0 rfl rfl dX9_starts_8 ?_
  refine lv_bipush (v := 30) hX hB dX9_starts_11 (by decide) ?_
  refine lv_iload_n hX hB dX9_starts_13 rfl (lv_at hl 0 rfl) ?_
  refine z_iadd (v := 30) C dX9_starts_14 (by decide) ?_
  refine lv_iconst (v := 0) hX hB dX9_starts_15 (by decide) ?_
  refine z_iast C hP hD hS 1 rfl (k := 30) (zlit 30) (by decide) (by decide) (w' := [(h0, .inr (11, [.ref h1, .ref h2, .ref h3, .ref h4, .ref h5, .int v1, .int v2, .int v3, .int v4, .int v5, .ref h6, .int v6, .ref h7, .ref h8, .ref h9, .int v7, .int v8, .int v9, .int v10, .int v11])), (h1, .inl (cy 0, 64, .inl (upd g 30 0)))]) rfl dX9_starts_16 (fun H locs hP hD hS => ?_)
  refine lv_aload_n hX hB dX9_starts_17 rfl (lv_at hl 1 rfl) ?_
  refine fg_X9_7 C hP 0 rfl rfl dX9_starts_18 ?_
  refine lv_bipush (v := 34) hX hB dX9_starts_21 (by decide) ?_
  refine lv_iload_n hX hB dX9_starts_23 rfl (lv_at hl 0 rfl) ?_
  refine z_iadd (v := 34) C dX9_starts_24 (by decide) ?_
  refine lv_iconst (v := 0) hX hB dX9_starts_25 (by decide) ?_
  refine z_iast C hP hD hS 1 rfl (k := 34) (zlit 34) (by decide) (by decide) (w' := [(h0, .inr (11, [.ref h1, .ref h2, .ref h3, .ref h4, .ref h5, .int v1, .int v2, .int v3, .int v4, .int v5, .ref h6, .int v6, .ref h7, .ref h8, .ref h9, .int v7, .int v8, .int v9, .int v10, .int v11])), (h1, .inl (cy 0, 64, .inl (upd (upd g 30 0) 34 0)))]) rfl dX9_starts_26 (fun H locs hP hD hS => ?_)
  refine lv_aload_n hX hB dX9_starts_27 rfl (lv_at hl 1 rfl) ?_
  refine fg_X9_7 C hP 0 rfl rfl dX9_starts_28 ?_
  refine lv_bipush (v := 38) hX hB dX9_starts_31 (by decide) ?_
  refine lv_iload_n hX hB dX9_starts_33 rfl (lv_at hl 0 rfl) ?_
  refine z_iadd (v := 38) C dX9_starts_34 (by decide) ?_
  refine lv_iconst (v := 0) hX hB dX9_starts_35 (by decide) ?_
  refine z_iast C hP hD hS 1 rfl (k := 38) (zlit 38) (by decide) (by decide) (w' := [(h0, .inr (11, [.ref h1, .ref h2, .ref h3, .ref h4, .ref h5, .int v1, .int v2, .int v3, .int v4, .int v5, .ref h6, .int v6, .ref h7, .ref h8, .ref h9, .int v7, .int v8, .int v9, .int v10, .int v11])), (h1, .inl (cy 0, 64, .inl (upd (upd (upd g 30 0) 34 0) 38 0)))]) rfl dX9_starts_36 (fun H locs hP hD hS => ?_)
  refine lv_iinc (v := 1) (lv' := [(1, .int 1), (0, .ref h0)]) hX hB dX9_starts_37 hl (k := 0) rfl (by decide) (by decide) rfl (fun ls hl => ?_)
  refine lv_goto (tgt := 2) hX hB dX9_starts_40 (by decide) ?_
  refine lv_iload_n hX hB dX9_starts_2 rfl (lv_at hl 0 rfl) ?_
  refine lv_iconst (v := 4) hX hB dX9_starts_3 (by decide) ?_
  refine lv_icmp_ge (tgt := 43) hX hB dX9_starts_4 (by decide) (fun c => absurd c (by decide)) (fun _ => ?_)
  refine lv_aload_n hX hB dX9_starts_7 rfl (lv_at hl 1 rfl) ?_
  refine fg_X9_7 C hP 0 rfl rfl dX9_starts_8 ?_
  refine lv_bipush (v := 30) hX hB dX9_starts_11 (by decide) ?_
  refine lv_iload_n hX hB dX9_starts_13 rfl (lv_at hl 0 rfl) ?_
  refine z_iadd (v := 31) C dX9_starts_14 (by decide) ?_
  refine lv_iconst (v := 0) hX hB dX9_starts_15 (by decide) ?_
  refine z_iast C hP hD hS 1 rfl (k := 31) (zlit 31) (by decide) (by decide) (w' := [(h0, .inr (11, [.ref h1, .ref h2, .ref h3, .ref h4, .ref h5, .int v1, .int v2, .int v3, .int v4, .int v5, .ref h6, .int v6, .ref h7, .ref h8, .ref h9, .int v7, .int v8, .int v9, .int v10, .int v11])), (h1, .inl (cy 0, 64, .inl (upd (upd (upd (upd g 30 0) 34 0) 38 0) 31 0)))]) rfl dX9_starts_16 (fun H locs hP hD hS => ?_)
  refine lv_aload_n hX hB dX9_starts_17 rfl (lv_at hl 1 rfl) ?_
  refine fg_X9_7 C hP 0 rfl rfl dX9_starts_18 ?_
  refine lv_bipush (v := 34) hX hB dX9_starts_21 (by decide) ?_
  refine lv_iload_n hX hB dX9_starts_23 rfl (lv_at hl 0 rfl) ?_
  refine z_iadd (v := 35) C dX9_starts_24 (by decide) ?_
  refine lv_iconst (v := 0) hX hB dX9_starts_25 (by decide) ?_
  refine z_iast C hP hD hS 1 rfl (k := 35) (zlit 35) (by decide) (by decide) (w' := [(h0, .inr (11, [.ref h1, .ref h2, .ref h3, .ref h4, .ref h5, .int v1, .int v2, .int v3, .int v4, .int v5, .ref h6, .int v6, .ref h7, .ref h8, .ref h9, .int v7, .int v8, .int v9, .int v10, .int v11])), (h1, .inl (cy 0, 64, .inl (upd (upd (upd (upd (upd g 30 0) 34 0) 38 0) 31 0) 35 0)))]) rfl dX9_starts_26 (fun H locs hP hD hS => ?_)
  refine lv_aload_n hX hB dX9_starts_27 rfl (lv_at hl 1 rfl) ?_
  refine fg_X9_7 C hP 0 rfl rfl dX9_starts_28 ?_
  refine lv_bipush (v := 38) hX hB dX9_starts_31 (by decide) ?_
  refine lv_iload_n hX hB dX9_starts_33 rfl (lv_at hl 0 rfl) ?_
  refine z_iadd (v := 39) C dX9_starts_34 (by decide) ?_
  refine lv_iconst (v := 0) hX hB dX9_starts_35 (by decide) ?_
  refine z_iast C hP hD hS 1 rfl (k := 39) (zlit 39) (by decide) (by decide) (w' := [(h0, .inr (11, [.ref h1, .ref h2, .ref h3, .ref h4, .ref h5, .int v1, .int v2, .int v3, .int v4, .int v5, .ref h6, .int v6, .ref h7, .ref h8, .ref h9, .int v7, .int v8, .int v9, .int v10, .int v11])), (h1, .inl (cy 0, 64, .inl (upd (upd (upd (upd (upd (upd g 30 0) 34 0) 38 0) 31 0) 35 0) 39 0)))]) rfl dX9_starts_36 (fun H locs hP hD hS => ?_)
  refine lv_iinc (v := 2) (lv' := [(1, .int 2), (0, .ref h0)]) hX hB dX9_starts_37 hl (k := 0) rfl (by decide) (by decide) rfl (fun ls hl => ?_)
  refine lv_goto (tgt := 2) hX hB dX9_starts_40 (by decide) ?_
  refine lv_iload_n hX hB dX9_starts_2 rfl (lv_at hl 0 rfl) ?_
  refine lv_iconst (v := 4) hX hB dX9_starts_3 (by decide) ?_
  refine lv_icmp_ge (tgt := 43) hX hB dX9_starts_4 (by decide) (fun c => absurd c (by decide)) (fun _ => ?_)
  refine lv_aload_n hX hB dX9_starts_7 rfl (lv_at hl 1 rfl) ?_
  refine fg_X9_7 C hP 0 rfl rfl dX9_starts_8 ?_
  refine lv_bipush (v := 30) hX hB dX9_starts_11 (by decide) ?_
  refine lv_iload_n hX hB dX9_starts_13 rfl (lv_at hl 0 rfl) ?_
  refine z_iadd (v := 32) C dX9_starts_14 (by decide) ?_
  refine lv_iconst (v := 0) hX hB dX9_starts_15 (by decide) ?_
  refine z_iast C hP hD hS 1 rfl (k := 32) (zlit 32) (by decide) (by decide) (w' := [(h0, .inr (11, [.ref h1, .ref h2, .ref h3, .ref h4, .ref h5, .int v1, .int v2, .int v3, .int v4, .int v5, .ref h6, .int v6, .ref h7, .ref h8, .ref h9, .int v7, .int v8, .int v9, .int v10, .int v11])), (h1, .inl (cy 0, 64, .inl (upd (upd (upd (upd (upd (upd (upd g 30 0) 34 0) 38 0) 31 0) 35 0) 39 0) 32 0)))]) rfl dX9_starts_16 (fun H locs hP hD hS => ?_)
  refine lv_aload_n hX hB dX9_starts_17 rfl (lv_at hl 1 rfl) ?_
  refine fg_X9_7 C hP 0 rfl rfl dX9_starts_18 ?_
  refine lv_bipush (v := 34) hX hB dX9_starts_21 (by decide) ?_
  refine lv_iload_n hX hB dX9_starts_23 rfl (lv_at hl 0 rfl) ?_
  refine z_iadd (v := 36) C dX9_starts_24 (by decide) ?_
  refine lv_iconst (v := 0) hX hB dX9_starts_25 (by decide) ?_
  refine z_iast C hP hD hS 1 rfl (k := 36) (zlit 36) (by decide) (by decide) (w' := [(h0, .inr (11, [.ref h1, .ref h2, .ref h3, .ref h4, .ref h5, .int v1, .int v2, .int v3, .int v4, .int v5, .ref h6, .int v6, .ref h7, .ref h8, .ref h9, .int v7, .int v8, .int v9, .int v10, .int v11])), (h1, .inl (cy 0, 64, .inl (upd (upd (upd (upd (upd (upd (upd (upd g 30 0) 34 0) 38 0) 31 0) 35 0) 39 0) 32 0) 36 0)))]) rfl dX9_starts_26 (fun H locs hP hD hS => ?_)
  refine lv_aload_n hX hB dX9_starts_27 rfl (lv_at hl 1 rfl) ?_
  refine fg_X9_7 C hP 0 rfl rfl dX9_starts_28 ?_
  refine lv_bipush (v := 38) hX hB dX9_starts_31 (by decide) ?_
  refine lv_iload_n hX hB dX9_starts_33 rfl (lv_at hl 0 rfl) ?_
  refine z_iadd (v := 40) C dX9_starts_34 (by decide) ?_
  refine lv_iconst (v := 0) hX hB dX9_starts_35 (by decide) ?_
  refine z_iast C hP hD hS 1 rfl (k := 40) (zlit 40) (by decide) (by decide) (w' := [(h0, .inr (11, [.ref h1, .ref h2, .ref h3, .ref h4, .ref h5, .int v1, .int v2, .int v3, .int v4, .int v5, .ref h6, .int v6, .ref h7, .ref h8, .ref h9, .int v7, .int v8, .int v9, .int v10, .int v11])), (h1, .inl (cy 0, 64, .inl (upd (upd (upd (upd (upd (upd (upd (upd (upd g 30 0) 34 0) 38 0) 31 0) 35 0) 39 0) 32 0) 36 0) 40 0)))]) rfl dX9_starts_36 (fun H locs hP hD hS => ?_)
  refine lv_iinc (v := 3) (lv' := [(1, .int 3), (0, .ref h0)]) hX hB dX9_starts_37 hl (k := 0) rfl (by decide) (by decide) rfl (fun ls hl => ?_)
  refine lv_goto (tgt := 2) hX hB dX9_starts_40 (by decide) ?_
  refine lv_iload_n hX hB dX9_starts_2 rfl (lv_at hl 0 rfl) ?_
  refine lv_iconst (v := 4) hX hB dX9_starts_3 (by decide) ?_
  refine lv_icmp_ge (tgt := 43) hX hB dX9_starts_4 (by decide) (fun c => absurd c (by decide)) (fun _ => ?_)
  refine lv_aload_n hX hB dX9_starts_7 rfl (lv_at hl 1 rfl) ?_
  refine fg_X9_7 C hP 0 rfl rfl dX9_starts_8 ?_
  refine lv_bipush (v := 30) hX hB dX9_starts_11 (by decide) ?_
  refine lv_iload_n hX hB dX9_starts_13 rfl (lv_at hl 0 rfl) ?_
  refine z_iadd (v := 33) C dX9_starts_14 (by decide) ?_
  refine lv_iconst (v := 0) hX hB dX9_starts_15 (by decide) ?_
  refine z_iast C hP hD hS 1 rfl (k := 33) (zlit 33) (by decide) (by decide) (w' := [(h0, .inr (11, [.ref h1, .ref h2, .ref h3, .ref h4, .ref h5, .int v1, .int v2, .int v3, .int v4, .int v5, .ref h6, .int v6, .ref h7, .ref h8, .ref h9, .int v7, .int v8, .int v9, .int v10, .int v11])), (h1, .inl (cy 0, 64, .inl (upd (upd (upd (upd (upd (upd (upd (upd (upd (upd g 30 0) 34 0) 38 0) 31 0) 35 0) 39 0) 32 0) 36 0) 40 0) 33 0)))]) rfl dX9_starts_16 (fun H locs hP hD hS => ?_)
  refine lv_aload_n hX hB dX9_starts_17 rfl (lv_at hl 1 rfl) ?_
  refine fg_X9_7 C hP 0 rfl rfl dX9_starts_18 ?_
  refine lv_bipush (v := 34) hX hB dX9_starts_21 (by decide) ?_
  refine lv_iload_n hX hB dX9_starts_23 rfl (lv_at hl 0 rfl) ?_
  refine z_iadd (v := 37) C dX9_starts_24 (by decide) ?_
  refine lv_iconst (v := 0) hX hB dX9_starts_25 (by decide) ?_
  refine z_iast C hP hD hS 1 rfl (k := 37) (zlit 37) (by decide) (by decide) (w' := [(h0, .inr (11, [.ref h1, .ref h2, .ref h3, .ref h4, .ref h5, .int v1, .int v2, .int v3, .int v4, .int v5, .ref h6, .int v6, .ref h7, .ref h8, .ref h9, .int v7, .int v8, .int v9, .int v10, .int v11])), (h1, .inl (cy 0, 64, .inl (upd (upd (upd (upd (upd (upd (upd (upd (upd (upd (upd g 30 0) 34 0) 38 0) 31 0) 35 0) 39 0) 32 0) 36 0) 40 0) 33 0) 37 0)))]) rfl dX9_starts_26 (fun H locs hP hD hS => ?_)
  refine lv_aload_n hX hB dX9_starts_27 rfl (lv_at hl 1 rfl) ?_
  refine fg_X9_7 C hP 0 rfl rfl dX9_starts_28 ?_
  refine lv_bipush (v := 38) hX hB dX9_starts_31 (by decide) ?_
  refine lv_iload_n hX hB dX9_starts_33 rfl (lv_at hl 0 rfl) ?_
  refine z_iadd (v := 41) C dX9_starts_34 (by decide) ?_
  refine lv_iconst (v := 0) hX hB dX9_starts_35 (by decide) ?_
  refine z_iast C hP hD hS 1 rfl (k := 41) (zlit 41) (by decide) (by decide) (w' := [(h0, .inr (11, [.ref h1, .ref h2, .ref h3, .ref h4, .ref h5, .int v1, .int v2, .int v3, .int v4, .int v5, .ref h6, .int v6, .ref h7, .ref h8, .ref h9, .int v7, .int v8, .int v9, .int v10, .int v11])), (h1, .inl (cy 0, 64, .inl (upd (upd (upd (upd (upd (upd (upd (upd (upd (upd (upd (upd g 30 0) 34 0) 38 0) 31 0) 35 0) 39 0) 32 0) 36 0) 40 0) 33 0) 37 0) 41 0)))]) rfl dX9_starts_36 (fun H locs hP hD hS => ?_)
  refine lv_iinc (v := 4) (lv' := [(1, .int 4), (0, .ref h0)]) hX hB dX9_starts_37 hl (k := 0) rfl (by decide) (by decide) rfl (fun ls hl => ?_)
  refine lv_goto (tgt := 2) hX hB dX9_starts_40 (by decide) ?_
  refine lv_iload_n hX hB dX9_starts_2 rfl (lv_at hl 0 rfl) ?_
  refine lv_iconst (v := 4) hX hB dX9_starts_3 (by decide) ?_
  refine lv_icmp_ge (tgt := 43) hX hB dX9_starts_4 (by decide) (fun _ => ?_) (fun c => absurd (by decide) c)
  refine lv_aload_n hX hB dX9_starts_43 rfl (lv_at hl 1 rfl) ?_
  refine fg_X9_7 C hP 0 rfl rfl dX9_starts_44 ?_
  refine lv_iconst (v := 0) hX hB dX9_starts_47 (by decide) ?_
  refine lv_iconst (v := 1) hX hB dX9_starts_48 (by decide) ?_
  refine z_iast C hP hD hS 1 rfl (k := 0) (zlit 0) (by decide) (by decide) (w' := [(h0, .inr (11, [.ref h1, .ref h2, .ref h3, .ref h4, .ref h5, .int v1, .int v2, .int v3, .int v4, .int v5, .ref h6, .int v6, .ref h7, .ref h8, .ref h9, .int v7, .int v8, .int v9, .int v10, .int v11])), (h1, .inl (cy 0, 64, .inl (upd (upd (upd (upd (upd (upd (upd (upd (upd (upd (upd (upd (upd g 30 0) 34 0) 38 0) 31 0) 35 0) 39 0) 32 0) 36 0) 40 0) 33 0) 37 0) 41 0) 0 1)))]) rfl dX9_starts_49 (fun H locs hP hD hS => ?_)
  refine lv_aload_n hX hB dX9_starts_50 rfl (lv_at hl 1 rfl) ?_
  refine fg_X9_7 C hP 0 rfl rfl dX9_starts_51 ?_
  refine lv_iconst (v := 3) hX hB dX9_starts_54 (by decide) ?_
  refine lv_iconst (v := 0) hX hB dX9_starts_55 (by decide) ?_
  refine z_iast C hP hD hS 1 rfl (k := 3) (zlit 3) (by decide) (by decide) (w' := [(h0, .inr (11, [.ref h1, .ref h2, .ref h3, .ref h4, .ref h5, .int v1, .int v2, .int v3, .int v4, .int v5, .ref h6, .int v6, .ref h7, .ref h8, .ref h9, .int v7, .int v8, .int v9, .int v10, .int v11])), (h1, .inl (cy 0, 64, .inl (upd (upd (upd (upd (upd (upd (upd (upd (upd (upd (upd (upd (upd (upd g 30 0) 34 0) 38 0) 31 0) 35 0) 39 0) 32 0) 36 0) 40 0) 33 0) 37 0) 41 0) 0 1) 3 0)))]) rfl dX9_starts_56 (fun H locs hP hD hS => ?_)
  refine lv_aload_n hX hB dX9_starts_57 rfl (lv_at hl 1 rfl) ?_
  refine fg_X9_7 C hP 0 rfl rfl dX9_starts_58 ?_
  refine lv_iconst (v := 4) hX hB dX9_starts_61 (by decide) ?_
  refine lv_iconst (v := 1) hX hB dX9_starts_62 (by decide) ?_
  refine z_iast C hP hD hS 1 rfl (k := 4) (zlit 4) (by decide) (by decide) (w' := [(h0, .inr (11, [.ref h1, .ref h2, .ref h3, .ref h4, .ref h5, .int v1, .int v2, .int v3, .int v4, .int v5, .ref h6, .int v6, .ref h7, .ref h8, .ref h9, .int v7, .int v8, .int v9, .int v10, .int v11])), (h1, .inl (cy 0, 64, .inl (upd (upd (upd (upd (upd (upd (upd (upd (upd (upd (upd (upd (upd (upd (upd g 30 0) 34 0) 38 0) 31 0) 35 0) 39 0) 32 0) 36 0) 40 0) 33 0) 37 0) 41 0) 0 1) 3 0) 4 1)))]) rfl dX9_starts_63 (fun H locs hP hD hS => ?_)
  refine lv_aload_n hX hB dX9_starts_64 rfl (lv_at hl 1 rfl) ?_
  refine fg_X9_7 C hP 0 rfl rfl dX9_starts_65 ?_
  refine lv_iconst (v := 1) hX hB dX9_starts_68 (by decide) ?_
  refine lv_dup2_11 hX hB dX9_starts_69 rfl rfl ?_
  refine z_iald C hP 1 rfl (k := 1) (zlit 1) (by decide) (by decide) (v := g 1) ((pk_un (by decide)).trans ((pk_un (by decide)).trans ((pk_un (by decide)).trans ((pk_un (by decide)).trans ((pk_un (by decide)).trans ((pk_un (by decide)).trans ((pk_un (by decide)).trans ((pk_un (by decide)).trans ((pk_un (by decide)).trans ((pk_un (by decide)).trans ((pk_un (by decide)).trans ((pk_un (by decide)).trans ((pk_un (by decide)).trans ((pk_un (by decide)).trans (pk_un (by decide)))))))))))))))) dX9_starts_70 ?_
  refine lv_iconst (v := 1) hX hB dX9_starts_71 (by decide) ?_
  refine z_iadd (v := (g 1) + 1) C dX9_starts_72 rfl ?_
  refine z_iast C hP hD hS 1 rfl (k := 1) (zlit 1) (by decide) (by decide) (w' := [(h0, .inr (11, [.ref h1, .ref h2, .ref h3, .ref h4, .ref h5, .int v1, .int v2, .int v3, .int v4, .int v5, .ref h6, .int v6, .ref h7, .ref h8, .ref h9, .int v7, .int v8, .int v9, .int v10, .int v11])), (h1, .inl (cy 0, 64, .inl (upd (upd (upd (upd (upd (upd (upd (upd (upd (upd (upd (upd (upd (upd (upd (upd g 30 0) 34 0) 38 0) 31 0) 35 0) 39 0) 32 0) 36 0) 40 0) 33 0) 37 0) 41 0) 0 1) 3 0) 4 1) 1 ((g 1) + 1))))]) rfl dX9_starts_73 (fun H locs hP hD hS => ?_)
  refine lv_aload_n hX hB dX9_starts_74 rfl (lv_at hl 1 rfl) ?_
  refine z_callVv (isC := [0, 1]) (isR := []) (isO := [0, 1]) (n_X9_beginsBall (upd (upd (upd (upd (upd (upd (upd (upd (upd (upd (upd (upd (upd (upd (upd (upd g 30 0) 34 0) 38 0) 31 0) 35 0) 39 0) 32 0) 36 0) 40 0) 33 0) 37 0) 41 0) 0 1) 3 0) 4 1) 1 ((g 1) + 1))) (q_X9_beginsBall cy h0 h1 h2 h3 h4 h5 h6 h7 h8 h9 v1 v2 v3 v4 v5 v6 v7 v8 v9 v10 v11) (fun o_1 => [(h0, .inr (11, [.ref h1, .ref h2, .ref h3, .ref h4, .ref h5, .int v1, .int v2, .int v3, .int v4, .int v5, .ref h6, .int v6, .ref h7, .ref h8, .ref h9, .int v7, .int v8, .int v9, .int v10, .int v11])), (h1, .inl (cy 0, 64, .inl (o_1)))]) (c_X9_beginsBall l hE D cy h0 h1 h2 h3 h4 h5 h6 h7 h8 h9 v1 v2 v3 v4 v5 v6 v7 v8 v9 v10 v11 (upd (upd (upd (upd (upd (upd (upd (upd (upd (upd (upd (upd (upd (upd (upd (upd g 30 0) 34 0) 38 0) 31 0) 35 0) 39 0) 32 0) 36 0) 40 0) 33 0) 37 0) 41 0) 0 1) 3 0) 4 1) 1 ((g 1) + 1)) ) hE C zs_X9_97 ⟨Nat.le_of_ble_eq_true rfl, Nat.le_of_ble_eq_true rfl⟩ hP hD hS hA hE0 ⟨rfl, rfl, rfl, by decide, rfl, rfl, rfl⟩ 0 rfl rfl rfl rfl hl.1 (Nat.le_of_ble_eq_true rfl) rfl dX9_starts_75 ⟨Nat.le_of_ble_eq_true rfl, Nat.le_of_ble_eq_true rfl⟩ (fun o_1 H locs eo_1 hP hD hS => ?_)
  refine lv_aload_n hX hB dX9_starts_78 rfl (lv_at hl 1 rfl) ?_
  refine fg_X9_7 C hP 0 rfl rfl dX9_starts_79 ?_
  refine lv_iconst (v := 1) hX hB dX9_starts_82 (by decide) ?_
  refine z_iald C hP 1 rfl (k := 1) (zlit 1) (by decide) (by decide) (v := (g 1) + 1) ((show o_1 1 = (upd (upd (upd (upd (upd (upd (upd (upd (upd (upd (upd (upd (upd (upd (upd (upd g 30 0) 34 0) 38 0) 31 0) 35 0) 39 0) 32 0) 36 0) 40 0) 33 0) 37 0) 41 0) 0 1) 3 0) 4 1) 1 ((g 1) + 1)) 1 by rw [eo_1]; exact k_X9_beginsBall (upd (upd (upd (upd (upd (upd (upd (upd (upd (upd (upd (upd (upd (upd (upd (upd g 30 0) 34 0) 38 0) 31 0) 35 0) 39 0) 32 0) 36 0) 40 0) 33 0) 37 0) 41 0) 0 1) 3 0) 4 1) 1 ((g 1) + 1)) 1 (by omega)).trans pk_us) dX9_starts_83 ?_
  exact z_iret' ((g 1) + 1, o_1) (w' := q_X9_starts cy h0 h1 h2 h3 h4 h5 h6 h7 h8 h9 v1 v2 v3 v4 v5 v6 v7 v8 v9 v10 v11) (r0 := (fun (o : Int32 × (Nat → Int32)) => o.1)) (by simp only [n_X9_starts, ← eo_1]) C hRT hP hD hS (Nat.le_of_ble_eq_true rfl) (Nat.le_of_ble_eq_true rfl) rfl rfl dX9_starts_84

def n_X9_givesExtra (g : Nat → Int32) (c : Nat) : Nat → Int32 :=
  if 3 ≤ g (34 + c) then
    upd g (34 + c) ((g (34 + c)) + 0)
  else
    upd g (34 + c) ((g (34 + c)) + 1)
def q_X9_givesExtra (cy : Nat → ClassId) (h0 : Nat) (h1 : Nat) (h2 : Nat) (h3 : Nat) (h4 : Nat) (h5 : Nat) (h6 : Nat) (h7 : Nat) (h8 : Nat) (h9 : Nat) (v1 : Int32) (v2 : Int32) (v3 : Int32) (v4 : Int32) (v5 : Int32) (v6 : Int32) (v7 : Int32) (v8 : Int32) (v9 : Int32) (v10 : Int32) (v11 : Int32) (o : Nat → Int32) : va_W := [(h0, .inr (11, [.ref h1, .ref h2, .ref h3, .ref h4, .ref h5, .int v1, .int v2, .int v3, .int v4, .int v5, .ref h6, .int v6, .ref h7, .ref h8, .ref h9, .int v7, .int v8, .int v9, .int v10, .int v11])), (h1, .inl (cy 0, 64, .inl (o)))]
theorem k_X9_givesExtra (g : Nat → Int32) (c : Nat)  (j : Nat) (hj : j < 34) : (n_X9_givesExtra g c) j = g j := by
  simp only [n_X9_givesExtra]
  repeat (any_goals split)
  all_goals (try simp (disch := omega) only [pk_un])
set_option maxHeartbeats 4000000 in
set_option maxRecDepth 100000 in
theorem c_X9_givesExtra (l : Launch) {E : zEn} (hE : zEok E) (D : zG) (cy : Nat → ClassId) (h0 h1 h2 h3 h4 h5 h6 h7 h8 h9 : Nat) (v1 : Int32) (v2 : Int32) (v3 : Int32) (v4 : Int32) (v5 : Int32) (v6 : Int32) (v7 : Int32) (v8 : Int32) (v9 : Int32) (v10 : Int32) (v11 : Int32) (g : Nat → Int32) (x : Int32) (c : Nat) (hx : zi x c) (hxb : c ≤ 3) (sz : Nat) : Met l yX9_givesExtra (zws yX9_givesExtra cX9_givesExtra 2 none) { frames := 0, cells := 0, slots := 0, locals := 0 } (zPre E D cy [.ref h0, .int x] [(h0, .inr (11, [.ref h1, .ref h2, .ref h3, .ref h4, .ref h5, .int v1, .int v2, .int v3, .int v4, .int v5, .ref h6, .int v6, .ref h7, .ref h8, .ref h9, .int v7, .int v8, .int v9, .int v10, .int v11])), (h1, .inl (cy 0, 64, .inl (g)))] sz) (zQv D ((q_X9_givesExtra cy h0 h1 h2 h3 h4 h5 h6 h7 h8 h9 v1 v2 v3 v4 v5 v6 v7 v8 v9 v10 v11) (n_X9_givesExtra g c)) (va_A [(h0, .inr (11, [.ref h1, .ref h2, .ref h3, .ref h4, .ref h5, .int v1, .int v2, .int v3, .int v4, .int v5, .ref h6, .int v6, .ref h7, .ref h8, .ref h9, .int v7, .int v8, .int v9, .int v10, .int v11])), (h1, .inl (cy 0, 64, .inl (g)))] sz)) 0 0 (va_A [(h0, .inr (11, [.ref h1, .ref h2, .ref h3, .ref h4, .ref h5, .int v1, .int v2, .int v3, .int v4, .int v5, .ref h6, .int v6, .ref h7, .ref h8, .ref h9, .int v7, .int v8, .int v9, .int v10, .int v11])), (h1, .inl (cy 0, 64, .inl (g)))] sz) := by
  refine z_of (Qc := fun A => zQv D ((q_X9_givesExtra cy h0 h1 h2 h3 h4 h5 h6 h7 h8 h9 v1 v2 v3 v4 v5 v6 v7 v8 v9 v10 v11) (n_X9_givesExtra g c)) A) (by decide +kernel) (Nat.le_of_ble_eq_true rfl) rfl ?_
  intro pG eN sT mI below meth cO A ls C hRT hnm hA hP hD hS hE0 hl
  have hX := C.x
  have hB := C.b
  refine lv_aload_n hX hB dX9_givesExtra_0 rfl (lv_at hl 0 rfl) ?_
  refine fg_X9_7 C hP 0 rfl rfl dX9_givesExtra_1 ?_
  refine lv_bipush (v := 34) hX hB dX9_givesExtra_4 (by decide) ?_
  refine lv_iload_n hX hB dX9_givesExtra_6 rfl (lv_at hl 1 rfl) ?_
  refine z_iadd (v := nI (34 + c)) C dX9_givesExtra_7 (zi_add (zlit 34) hx) ?_
  refine lv_dup2_11 hX hB dX9_givesExtra_8 rfl rfl ?_
  refine z_iald C hP 1 rfl (k := 34 + c) (zi_i (34 + c)) (by omega) (by decide) (v := g (34 + c)) rfl dX9_givesExtra_9 ?_
  refine lv_aload_n hX hB dX9_givesExtra_10 rfl (lv_at hl 0 rfl) ?_
  refine fg_X9_7 C hP 0 rfl rfl dX9_givesExtra_11 ?_
  refine lv_bipush (v := 34) hX hB dX9_givesExtra_14 (by decide) ?_
  refine lv_iload_n hX hB dX9_givesExtra_16 rfl (lv_at hl 1 rfl) ?_
  refine z_iadd (v := nI (34 + c)) C dX9_givesExtra_17 (zi_add (zlit 34) hx) ?_
  refine z_iald C hP 1 rfl (k := 34 + c) (zi_i (34 + c)) (by omega) (by decide) (v := g (34 + c)) rfl dX9_givesExtra_18 ?_
  refine lv_iconst (v := 3) hX hB dX9_givesExtra_19 (by decide) ?_
  refine lv_icmp_ge (tgt := 27) hX hB dX9_givesExtra_20 (by decide) (fun c_1 => ?_) (fun c_1 => ?_)
  · refine lv_iconst (v := 0) hX hB dX9_givesExtra_27 (by decide) ?_
    refine z_iadd (v := (g (34 + c)) + 0) C dX9_givesExtra_28 rfl ?_
    refine z_iast C hP hD hS 1 rfl (k := 34 + c) (zi_i (34 + c)) (by omega) (by decide) (w' := [(h0, .inr (11, [.ref h1, .ref h2, .ref h3, .ref h4, .ref h5, .int v1, .int v2, .int v3, .int v4, .int v5, .ref h6, .int v6, .ref h7, .ref h8, .ref h9, .int v7, .int v8, .int v9, .int v10, .int v11])), (h1, .inl (cy 0, 64, .inl (upd g (34 + c) ((g (34 + c)) + 0))))]) rfl dX9_givesExtra_29 (fun H locs hP hD hS => ?_)
    exact z_vret' (upd g (34 + c) ((g (34 + c)) + 0)) (w' := q_X9_givesExtra cy h0 h1 h2 h3 h4 h5 h6 h7 h8 h9 v1 v2 v3 v4 v5 v6 v7 v8 v9 v10 v11) (by simp only [n_X9_givesExtra, if_pos c_1]) C hRT hP hD hS (Nat.le_of_ble_eq_true rfl) (Nat.le_of_ble_eq_true rfl) rfl dX9_givesExtra_30
  · refine lv_iconst (v := 1) hX hB dX9_givesExtra_23 (by decide) ?_
    refine lv_goto (tgt := 28) hX hB dX9_givesExtra_24 (by decide) ?_
    refine z_iadd (v := (g (34 + c)) + 1) C dX9_givesExtra_28 rfl ?_
    refine z_iast C hP hD hS 1 rfl (k := 34 + c) (zi_i (34 + c)) (by omega) (by decide) (w' := [(h0, .inr (11, [.ref h1, .ref h2, .ref h3, .ref h4, .ref h5, .int v1, .int v2, .int v3, .int v4, .int v5, .ref h6, .int v6, .ref h7, .ref h8, .ref h9, .int v7, .int v8, .int v9, .int v10, .int v11])), (h1, .inl (cy 0, 64, .inl (upd g (34 + c) ((g (34 + c)) + 1))))]) rfl dX9_givesExtra_29 (fun H locs hP hD hS => ?_)
    exact z_vret' (upd g (34 + c) ((g (34 + c)) + 1)) (w' := q_X9_givesExtra cy h0 h1 h2 h3 h4 h5 h6 h7 h8 h9 v1 v2 v3 v4 v5 v6 v7 v8 v9 v10 v11) (by simp only [n_X9_givesExtra, if_neg c_1]) C hRT hP hD hS (Nat.le_of_ble_eq_true rfl) (Nat.le_of_ble_eq_true rfl) rfl dX9_givesExtra_30

def n_X9_scores (g : Nat → Int32) (k : Nat) (x : Int32) : Int32 × (Nat → Int32) :=
  if (g (30 + (zn (g 3)))) + (x * (g 5)) < 5000 then
    (x * (g 5), upd (upd g (42 + k) ((g (42 + k)) + (x * (g 5)))) (30 + (zn (g 3))) ((g (30 + (zn (g 3)))) + (x * (g 5))))
  else
    if g (38 + (zn (g 3))) = 0 then
      let o_3 := n_X9_givesExtra (upd (upd (upd g (42 + k) ((g (42 + k)) + (x * (g 5)))) (30 + (zn (g 3))) ((g (30 + (zn (g 3)))) + (x * (g 5)))) (38 + (zn (g 3))) 1) (zn (g 3))
      (x * (g 5), o_3)
    else
      (x * (g 5), upd (upd g (42 + k) ((g (42 + k)) + (x * (g 5)))) (30 + (zn (g 3))) ((g (30 + (zn (g 3)))) + (x * (g 5))))
def q_X9_scores (cy : Nat → ClassId) (h0 : Nat) (h1 : Nat) (h2 : Nat) (h3 : Nat) (h4 : Nat) (h5 : Nat) (h6 : Nat) (h7 : Nat) (h8 : Nat) (h9 : Nat) (v1 : Int32) (v2 : Int32) (v3 : Int32) (v4 : Int32) (v5 : Int32) (v6 : Int32) (v7 : Int32) (v8 : Int32) (v9 : Int32) (v10 : Int32) (v11 : Int32) (o : Int32 × (Nat → Int32)) : va_W := [(h0, .inr (11, [.ref h1, .ref h2, .ref h3, .ref h4, .ref h5, .int v1, .int v2, .int v3, .int v4, .int v5, .ref h6, .int v6, .ref h7, .ref h8, .ref h9, .int v7, .int v8, .int v9, .int v10, .int v11])), (h1, .inl (cy 0, 64, .inl (o.2)))]
theorem k_X9_scores (g : Nat → Int32) (k : Nat) (x : Int32)  (j : Nat) (hj : j < 30) : (n_X9_scores g k x).2 j = g j := by
  simp only [n_X9_scores]
  repeat (any_goals split)
  all_goals (try simp (disch := omega) only [pk_un, k_X9_givesExtra])
set_option maxHeartbeats 4000000 in
set_option maxRecDepth 100000 in
theorem c_X9_scores (l : Launch) {E : zEn} (hE : zEok E) (D : zG) (cy : Nat → ClassId) (h0 h1 h2 h3 h4 h5 h6 h7 h8 h9 : Nat) (v1 : Int32) (v2 : Int32) (v3 : Int32) (v4 : Int32) (v5 : Int32) (v6 : Int32) (v7 : Int32) (v8 : Int32) (v9 : Int32) (v10 : Int32) (v11 : Int32) (g : Nat → Int32) (y : Int32) (k : Nat) (x : Int32) (hy : zi y k) (hyb : k ≤ 3) (hc : zle (g 3) 3) (sz : Nat) : Met l yX9_scores (zws yX9_scores cX9_scores 5 (some .int)) { frames := 1, cells := 0, slots := 0, locals := 21 } (zPre E D cy [.ref h0, .int y, .int x] [(h0, .inr (11, [.ref h1, .ref h2, .ref h3, .ref h4, .ref h5, .int v1, .int v2, .int v3, .int v4, .int v5, .ref h6, .int v6, .ref h7, .ref h8, .ref h9, .int v7, .int v8, .int v9, .int v10, .int v11])), (h1, .inl (cy 0, 64, .inl (g)))] sz) (zQi D ((q_X9_scores cy h0 h1 h2 h3 h4 h5 h6 h7 h8 h9 v1 v2 v3 v4 v5 v6 v7 v8 v9 v10 v11) (n_X9_scores g k x)) (va_A [(h0, .inr (11, [.ref h1, .ref h2, .ref h3, .ref h4, .ref h5, .int v1, .int v2, .int v3, .int v4, .int v5, .ref h6, .int v6, .ref h7, .ref h8, .ref h9, .int v7, .int v8, .int v9, .int v10, .int v11])), (h1, .inl (cy 0, 64, .inl (g)))] sz) ((n_X9_scores g k x).1)) 0 0 (va_A [(h0, .inr (11, [.ref h1, .ref h2, .ref h3, .ref h4, .ref h5, .int v1, .int v2, .int v3, .int v4, .int v5, .ref h6, .int v6, .ref h7, .ref h8, .ref h9, .int v7, .int v8, .int v9, .int v10, .int v11])), (h1, .inl (cy 0, 64, .inl (g)))] sz) := by
  refine z_of (Qc := fun A => zQi D ((q_X9_scores cy h0 h1 h2 h3 h4 h5 h6 h7 h8 h9 v1 v2 v3 v4 v5 v6 v7 v8 v9 v10 v11) (n_X9_scores g k x)) A ((n_X9_scores g k x).1)) (by decide +kernel) (Nat.le_of_ble_eq_true rfl) rfl ?_
  intro pG eN sT mI below meth cO A ls C hRT hnm hA hP hD hS hE0 hl
  have hX := C.x
  have hB := C.b
  have hc_ := hc.2
  refine lv_iload_n hX hB dX9_scores_0 rfl (lv_at hl 2 rfl) ?_
  refine lv_aload_n hX hB dX9_scores_1 rfl (lv_at hl 0 rfl) ?_
  refine fg_X9_7 C hP 0 rfl rfl dX9_scores_2 ?_
  refine lv_iconst (v := 5) hX hB dX9_scores_5 (by decide) ?_
  refine z_iald C hP 1 rfl (k := 5) (zlit 5) (by decide) (by decide) (v := g 5) rfl dX9_scores_6 ?_
  refine z_imul (v := x * (g 5)) C dX9_scores_7 rfl ?_
  refine lv_istore_n (lv' := [(3, .int (x * (g 5))), (0, .ref h0), (1, .int y), (2, .int x)]) hX hB dX9_scores_8 rfl hl (by decide) rfl (fun ls hl => ?_)
  refine lv_aload_n hX hB dX9_scores_9 rfl (lv_at hl 1 rfl) ?_
  refine fg_X9_7 C hP 0 rfl rfl dX9_scores_10 ?_
  refine lv_iconst (v := 3) hX hB dX9_scores_13 (by decide) ?_
  refine z_iald C hP 1 rfl (k := 3) (zlit 3) (by decide) (by decide) (v := g 3) rfl dX9_scores_14 ?_
  refine lv_istore (lv' := [(4, .int (g 3)), (3, .int (x * (g 5))), (0, .ref h0), (1, .int y), (2, .int x)]) hX hB dX9_scores_15 hl (by decide) rfl (fun ls hl => ?_)
  refine lv_aload_n hX hB dX9_scores_17 rfl (lv_at hl 2 rfl) ?_
  refine fg_X9_7 C hP 0 rfl rfl dX9_scores_18 ?_
  refine lv_bipush (v := 42) hX hB dX9_scores_21 (by decide) ?_
  refine lv_iload_n hX hB dX9_scores_23 rfl (lv_at hl 3 rfl) ?_
  refine z_iadd (v := nI (42 + k)) C dX9_scores_24 (zi_add (zlit 42) hy) ?_
  refine lv_dup2_11 hX hB dX9_scores_25 rfl rfl ?_
  refine z_iald C hP 1 rfl (k := 42 + k) (zi_i (42 + k)) (by omega) (by decide) (v := g (42 + k)) rfl dX9_scores_26 ?_
  refine lv_iload_n hX hB dX9_scores_27 rfl (lv_at hl 1 rfl) ?_
  refine z_iadd (v := (g (42 + k)) + (x * (g 5))) C dX9_scores_28 rfl ?_
  refine z_iast C hP hD hS 1 rfl (k := 42 + k) (zi_i (42 + k)) (by omega) (by decide) (w' := [(h0, .inr (11, [.ref h1, .ref h2, .ref h3, .ref h4, .ref h5, .int v1, .int v2, .int v3, .int v4, .int v5, .ref h6, .int v6, .ref h7, .ref h8, .ref h9, .int v7, .int v8, .int v9, .int v10, .int v11])), (h1, .inl (cy 0, 64, .inl (upd g (42 + k) ((g (42 + k)) + (x * (g 5))))))]) rfl dX9_scores_29 (fun H locs hP hD hS => ?_)
  refine lv_aload_n hX hB dX9_scores_30 rfl (lv_at hl 2 rfl) ?_
  refine fg_X9_7 C hP 0 rfl rfl dX9_scores_31 ?_
  refine lv_bipush (v := 30) hX hB dX9_scores_34 (by decide) ?_
  refine lv_iload hX hB dX9_scores_36 (lv_at hl 0 rfl) ?_
  refine z_iadd (v := nI (30 + (zn (g 3)))) C dX9_scores_38 (zi_add (zlit 30) hc.1) ?_
  refine lv_dup2_11 hX hB dX9_scores_39 rfl rfl ?_
  refine z_iald C hP 1 rfl (k := 30 + (zn (g 3))) (zi_i (30 + (zn (g 3)))) (by omega) (by decide) (v := g (30 + (zn (g 3)))) (pk_un (by omega)) dX9_scores_40 ?_
  refine lv_iload_n hX hB dX9_scores_41 rfl (lv_at hl 1 rfl) ?_
  refine z_iadd (v := (g (30 + (zn (g 3)))) + (x * (g 5))) C dX9_scores_42 rfl ?_
  refine z_iast C hP hD hS 1 rfl (k := 30 + (zn (g 3))) (zi_i (30 + (zn (g 3)))) (by omega) (by decide) (w' := [(h0, .inr (11, [.ref h1, .ref h2, .ref h3, .ref h4, .ref h5, .int v1, .int v2, .int v3, .int v4, .int v5, .ref h6, .int v6, .ref h7, .ref h8, .ref h9, .int v7, .int v8, .int v9, .int v10, .int v11])), (h1, .inl (cy 0, 64, .inl (upd (upd g (42 + k) ((g (42 + k)) + (x * (g 5)))) (30 + (zn (g 3))) ((g (30 + (zn (g 3)))) + (x * (g 5))))))]) rfl dX9_scores_43 (fun H locs hP hD hS => ?_)
  refine lv_aload_n hX hB dX9_scores_44 rfl (lv_at hl 2 rfl) ?_
  refine fg_X9_7 C hP 0 rfl rfl dX9_scores_45 ?_
  refine lv_bipush (v := 30) hX hB dX9_scores_48 (by decide) ?_
  refine lv_iload hX hB dX9_scores_50 (lv_at hl 0 rfl) ?_
  refine z_iadd (v := nI (30 + (zn (g 3)))) C dX9_scores_52 (zi_add (zlit 30) hc.1) ?_
  refine z_iald C hP 1 rfl (k := 30 + (zn (g 3))) (zi_i (30 + (zn (g 3)))) (by omega) (by decide) (v := (g (30 + (zn (g 3)))) + (x * (g 5))) pk_us dX9_scores_53 ?_
  refine lv_sipush (v := 5000) hX hB dX9_scores_54 (by decide) ?_
  refine lv_icmp_lt (tgt := 90) hX hB dX9_scores_57 (by decide) (fun c_1 => ?_) (fun c_1 => ?_)
  · refine lv_iload_n hX hB dX9_scores_90 rfl (lv_at hl 1 rfl) ?_
    exact z_iret' (x * (g 5), upd (upd g (42 + k) ((g (42 + k)) + (x * (g 5)))) (30 + (zn (g 3))) ((g (30 + (zn (g 3)))) + (x * (g 5)))) (w' := q_X9_scores cy h0 h1 h2 h3 h4 h5 h6 h7 h8 h9 v1 v2 v3 v4 v5 v6 v7 v8 v9 v10 v11) (r0 := (fun (o : Int32 × (Nat → Int32)) => o.1)) (by simp only [n_X9_scores, if_pos c_1]) C hRT hP hD hS (Nat.le_of_ble_eq_true rfl) (Nat.le_of_ble_eq_true rfl) rfl rfl dX9_scores_91
  · refine lv_aload_n hX hB dX9_scores_60 rfl (lv_at hl 2 rfl) ?_
    refine fg_X9_7 C hP 0 rfl rfl dX9_scores_61 ?_
    refine lv_bipush (v := 38) hX hB dX9_scores_64 (by decide) ?_
    refine lv_iload hX hB dX9_scores_66 (lv_at hl 0 rfl) ?_
    refine z_iadd (v := nI (38 + (zn (g 3)))) C dX9_scores_68 (zi_add (zlit 38) hc.1) ?_
    refine z_iald C hP 1 rfl (k := 38 + (zn (g 3))) (zi_i (38 + (zn (g 3)))) (by omega) (by decide) (v := g (38 + (zn (g 3)))) ((pk_un (by omega)).trans (pk_un (by omega))) dX9_scores_69 ?_
    refine lv_if_ne (tgt := 90) hX hB dX9_scores_70 (by decide) (fun c_2 => ?_) (fun c_2 => ?_)
    · refine lv_iload_n hX hB dX9_scores_90 rfl (lv_at hl 1 rfl) ?_
      exact z_iret' (x * (g 5), upd (upd g (42 + k) ((g (42 + k)) + (x * (g 5)))) (30 + (zn (g 3))) ((g (30 + (zn (g 3)))) + (x * (g 5)))) (w' := q_X9_scores cy h0 h1 h2 h3 h4 h5 h6 h7 h8 h9 v1 v2 v3 v4 v5 v6 v7 v8 v9 v10 v11) (r0 := (fun (o : Int32 × (Nat → Int32)) => o.1)) (by simp only [n_X9_scores, if_neg c_1, if_neg c_2]) C hRT hP hD hS (Nat.le_of_ble_eq_true rfl) (Nat.le_of_ble_eq_true rfl) rfl rfl dX9_scores_91
    · refine lv_aload_n hX hB dX9_scores_73 rfl (lv_at hl 2 rfl) ?_
      refine fg_X9_7 C hP 0 rfl rfl dX9_scores_74 ?_
      refine lv_bipush (v := 38) hX hB dX9_scores_77 (by decide) ?_
      refine lv_iload hX hB dX9_scores_79 (lv_at hl 0 rfl) ?_
      refine z_iadd (v := nI (38 + (zn (g 3)))) C dX9_scores_81 (zi_add (zlit 38) hc.1) ?_
      refine lv_iconst (v := 1) hX hB dX9_scores_82 (by decide) ?_
      refine z_iast C hP hD hS 1 rfl (k := 38 + (zn (g 3))) (zi_i (38 + (zn (g 3)))) (by omega) (by decide) (w' := [(h0, .inr (11, [.ref h1, .ref h2, .ref h3, .ref h4, .ref h5, .int v1, .int v2, .int v3, .int v4, .int v5, .ref h6, .int v6, .ref h7, .ref h8, .ref h9, .int v7, .int v8, .int v9, .int v10, .int v11])), (h1, .inl (cy 0, 64, .inl (upd (upd (upd g (42 + k) ((g (42 + k)) + (x * (g 5)))) (30 + (zn (g 3))) ((g (30 + (zn (g 3)))) + (x * (g 5)))) (38 + (zn (g 3))) 1)))]) rfl dX9_scores_83 (fun H locs hP hD hS => ?_)
      refine lv_aload_n hX hB dX9_scores_84 rfl (lv_at hl 2 rfl) ?_
      refine lv_iload hX hB dX9_scores_85 (lv_at hl 0 rfl) ?_
      refine z_callVv (isC := [0, 1]) (isR := []) (isO := [0, 1]) (n_X9_givesExtra (upd (upd (upd g (42 + k) ((g (42 + k)) + (x * (g 5)))) (30 + (zn (g 3))) ((g (30 + (zn (g 3)))) + (x * (g 5)))) (38 + (zn (g 3))) 1) (zn (g 3))) (q_X9_givesExtra cy h0 h1 h2 h3 h4 h5 h6 h7 h8 h9 v1 v2 v3 v4 v5 v6 v7 v8 v9 v10 v11) (fun o_3 => [(h0, .inr (11, [.ref h1, .ref h2, .ref h3, .ref h4, .ref h5, .int v1, .int v2, .int v3, .int v4, .int v5, .ref h6, .int v6, .ref h7, .ref h8, .ref h9, .int v7, .int v8, .int v9, .int v10, .int v11])), (h1, .inl (cy 0, 64, .inl (o_3)))]) (c_X9_givesExtra l hE D cy h0 h1 h2 h3 h4 h5 h6 h7 h8 h9 v1 v2 v3 v4 v5 v6 v7 v8 v9 v10 v11 (upd (upd (upd g (42 + k) ((g (42 + k)) + (x * (g 5)))) (30 + (zn (g 3))) ((g (30 + (zn (g 3)))) + (x * (g 5)))) (38 + (zn (g 3))) 1) (g 3) (zn (g 3)) hc.1 (by omega)) hE C zs_X9_109 ⟨Nat.le_of_ble_eq_true rfl, Nat.le_of_ble_eq_true rfl⟩ hP hD hS hA hE0 ⟨rfl, rfl, rfl, by decide, rfl, rfl, rfl⟩ 0 rfl rfl rfl rfl hl.1 (Nat.le_of_ble_eq_true rfl) rfl dX9_scores_87 ⟨Nat.le_of_ble_eq_true rfl, Nat.le_of_ble_eq_true rfl⟩ (fun o_3 H locs eo_3 hP hD hS => ?_)
      refine lv_iload_n hX hB dX9_scores_90 rfl (lv_at hl 1 rfl) ?_
      exact z_iret' (x * (g 5), o_3) (w' := q_X9_scores cy h0 h1 h2 h3 h4 h5 h6 h7 h8 h9 v1 v2 v3 v4 v5 v6 v7 v8 v9 v10 v11) (r0 := (fun (o : Int32 × (Nat → Int32)) => o.1)) (by simp only [n_X9_scores, if_neg c_1, if_pos c_2, ← eo_3]) C hRT hP hD hS (Nat.le_of_ble_eq_true rfl) (Nat.le_of_ble_eq_true rfl) rfl rfl dX9_scores_91

def n_X9_counts (g : Nat → Int32) : Int32 × (Nat → Int32) :=
  let o_1 := n_X9_isTilt (upd g 10 ((g 10) + 1))
  if o_1 = 0 then
    if g 8 ≤ 0 then
      (1, upd (upd g 10 ((g 10) + 1)) 8 ((g 8) - 0))
    else
      (1, upd (upd g 10 ((g 10) + 1)) 8 ((g 8) - 1))
  else
    (0, upd g 10 ((g 10) + 1))
def q_X9_counts (cy : Nat → ClassId) (h0 : Nat) (h1 : Nat) (h2 : Nat) (h3 : Nat) (h4 : Nat) (h5 : Nat) (h6 : Nat) (h7 : Nat) (h8 : Nat) (h9 : Nat) (v1 : Int32) (v2 : Int32) (v3 : Int32) (v4 : Int32) (v5 : Int32) (v6 : Int32) (v7 : Int32) (v8 : Int32) (v9 : Int32) (v10 : Int32) (v11 : Int32) (o : Int32 × (Nat → Int32)) : va_W := [(h0, .inr (11, [.ref h1, .ref h2, .ref h3, .ref h4, .ref h5, .int v1, .int v2, .int v3, .int v4, .int v5, .ref h6, .int v6, .ref h7, .ref h8, .ref h9, .int v7, .int v8, .int v9, .int v10, .int v11])), (h1, .inl (cy 0, 64, .inl (o.2)))]
theorem k_X9_counts (g : Nat → Int32)  (j : Nat) (hj : j ≠ 8 ∧ j ≠ 10) : (n_X9_counts g).2 j = g j := by
  simp only [n_X9_counts]
  repeat (any_goals split)
  all_goals (try simp (disch := omega) only [pk_un])
theorem b_X9_counts (g : Nat → Int32) : (n_X9_counts g).1 = 0 ∨ (n_X9_counts g).1 = 1 := by
  simp only [n_X9_counts]
  repeat (any_goals split)
  all_goals (first | exact Or.inl rfl | exact Or.inr rfl)
set_option maxHeartbeats 4000000 in
set_option maxRecDepth 100000 in
theorem c_X9_counts (l : Launch) {E : zEn} (hE : zEok E) (D : zG) (cy : Nat → ClassId) (h0 h1 h2 h3 h4 h5 h6 h7 h8 h9 : Nat) (v1 : Int32) (v2 : Int32) (v3 : Int32) (v4 : Int32) (v5 : Int32) (v6 : Int32) (v7 : Int32) (v8 : Int32) (v9 : Int32) (v10 : Int32) (v11 : Int32) (g : Nat → Int32)  (sz : Nat) : Met l yX9_counts (zws yX9_counts cX9_counts 1 (some .boolean)) { frames := 1, cells := 0, slots := 0, locals := 20 } (zPre E D cy [.ref h0] [(h0, .inr (11, [.ref h1, .ref h2, .ref h3, .ref h4, .ref h5, .int v1, .int v2, .int v3, .int v4, .int v5, .ref h6, .int v6, .ref h7, .ref h8, .ref h9, .int v7, .int v8, .int v9, .int v10, .int v11])), (h1, .inl (cy 0, 64, .inl (g)))] sz) (zQi D ((q_X9_counts cy h0 h1 h2 h3 h4 h5 h6 h7 h8 h9 v1 v2 v3 v4 v5 v6 v7 v8 v9 v10 v11) (n_X9_counts g)) (va_A [(h0, .inr (11, [.ref h1, .ref h2, .ref h3, .ref h4, .ref h5, .int v1, .int v2, .int v3, .int v4, .int v5, .ref h6, .int v6, .ref h7, .ref h8, .ref h9, .int v7, .int v8, .int v9, .int v10, .int v11])), (h1, .inl (cy 0, 64, .inl (g)))] sz) ((n_X9_counts g).1)) 0 0 (va_A [(h0, .inr (11, [.ref h1, .ref h2, .ref h3, .ref h4, .ref h5, .int v1, .int v2, .int v3, .int v4, .int v5, .ref h6, .int v6, .ref h7, .ref h8, .ref h9, .int v7, .int v8, .int v9, .int v10, .int v11])), (h1, .inl (cy 0, 64, .inl (g)))] sz) := by
  refine z_of (Qc := fun A => zQi D ((q_X9_counts cy h0 h1 h2 h3 h4 h5 h6 h7 h8 h9 v1 v2 v3 v4 v5 v6 v7 v8 v9 v10 v11) (n_X9_counts g)) A ((n_X9_counts g).1)) (by decide +kernel) (Nat.le_of_ble_eq_true rfl) rfl ?_
  intro pG eN sT mI below meth cO A ls C hRT hnm hA hP hD hS hE0 hl
  have hX := C.x
  have hB := C.b
  refine lv_aload_n hX hB dX9_counts_0 rfl (lv_at hl 0 rfl) ?_
  refine fg_X9_7 C hP 0 rfl rfl dX9_counts_1 ?_
  refine lv_bipush (v := 10) hX hB dX9_counts_4 (by decide) ?_
  refine lv_dup2_11 hX hB dX9_counts_6 rfl rfl ?_
  refine z_iald C hP 1 rfl (k := 10) (zlit 10) (by decide) (by decide) (v := g 10) rfl dX9_counts_7 ?_
  refine lv_iconst (v := 1) hX hB dX9_counts_8 (by decide) ?_
  refine z_iadd (v := (g 10) + 1) C dX9_counts_9 rfl ?_
  refine z_iast C hP hD hS 1 rfl (k := 10) (zlit 10) (by decide) (by decide) (w' := [(h0, .inr (11, [.ref h1, .ref h2, .ref h3, .ref h4, .ref h5, .int v1, .int v2, .int v3, .int v4, .int v5, .ref h6, .int v6, .ref h7, .ref h8, .ref h9, .int v7, .int v8, .int v9, .int v10, .int v11])), (h1, .inl (cy 0, 64, .inl (upd g 10 ((g 10) + 1))))]) rfl dX9_counts_10 (fun H locs hP hD hS => ?_)
  refine lv_aload_n hX hB dX9_counts_11 rfl (lv_at hl 0 rfl) ?_
  refine z_callVi (isC := [0, 1]) (isR := []) (isO := [0, 1]) (n_X9_isTilt (upd g 10 ((g 10) + 1))) (q_X9_isTilt cy h0 h1 h2 h3 h4 h5 h6 h7 h8 h9 v1 v2 v3 v4 v5 v6 v7 v8 v9 v10 v11 (upd g 10 ((g 10) + 1))) (fun o_1 => [(h0, .inr (11, [.ref h1, .ref h2, .ref h3, .ref h4, .ref h5, .int v1, .int v2, .int v3, .int v4, .int v5, .ref h6, .int v6, .ref h7, .ref h8, .ref h9, .int v7, .int v8, .int v9, .int v10, .int v11])), (h1, .inl (cy 0, 64, .inl (upd g 10 ((g 10) + 1))))]) (fun o_1 => o_1) (c_X9_isTilt l hE D cy h0 h1 h2 h3 h4 h5 h6 h7 h8 h9 v1 v2 v3 v4 v5 v6 v7 v8 v9 v10 v11 (upd g 10 ((g 10) + 1)) ) hE C zs_X9_113 ⟨Nat.le_of_ble_eq_true rfl, Nat.le_of_ble_eq_true rfl⟩ hP hD hS hA hE0 ⟨rfl, rfl, rfl, by decide, rfl, rfl, rfl⟩ 0 rfl rfl rfl rfl hl.1 (Nat.le_of_ble_eq_true rfl) rfl dX9_counts_12 ⟨Nat.le_of_ble_eq_true rfl, Nat.le_of_ble_eq_true rfl⟩ (fun o_1 H locs eo_1 hP hD hS => ?_)
  refine lv_if_eq (tgt := 20) hX hB dX9_counts_15 (by decide) (fun c_2 => ?_) (fun c_2 => ?_)
  · refine lv_aload_n hX hB dX9_counts_20 rfl (lv_at hl 0 rfl) ?_
    refine fg_X9_7 C hP 0 rfl rfl dX9_counts_21 ?_
    refine lv_bipush (v := 8) hX hB dX9_counts_24 (by decide) ?_
    refine lv_dup2_11 hX hB dX9_counts_26 rfl rfl ?_
    refine z_iald C hP 1 rfl (k := 8) (zlit 8) (by decide) (by decide) (v := g 8) (pk_un (by decide)) dX9_counts_27 ?_
    refine lv_aload_n hX hB dX9_counts_28 rfl (lv_at hl 0 rfl) ?_
    refine fg_X9_7 C hP 0 rfl rfl dX9_counts_29 ?_
    refine lv_bipush (v := 8) hX hB dX9_counts_32 (by decide) ?_
    refine z_iald C hP 1 rfl (k := 8) (zlit 8) (by decide) (by decide) (v := g 8) (pk_un (by decide)) dX9_counts_34 ?_
    refine lv_if_le (tgt := 42) hX hB dX9_counts_35 (by decide) (fun c_3 => ?_) (fun c_3 => ?_)
    · refine lv_iconst (v := 0) hX hB dX9_counts_42 (by decide) ?_
      refine z_isub (v := (g 8) - 0) C dX9_counts_43 rfl ?_
      refine z_iast C hP hD hS 1 rfl (k := 8) (zlit 8) (by decide) (by decide) (w' := [(h0, .inr (11, [.ref h1, .ref h2, .ref h3, .ref h4, .ref h5, .int v1, .int v2, .int v3, .int v4, .int v5, .ref h6, .int v6, .ref h7, .ref h8, .ref h9, .int v7, .int v8, .int v9, .int v10, .int v11])), (h1, .inl (cy 0, 64, .inl (upd (upd g 10 ((g 10) + 1)) 8 ((g 8) - 0))))]) rfl dX9_counts_44 (fun H locs hP hD hS => ?_)
      refine lv_iconst (v := 1) hX hB dX9_counts_45 (by decide) ?_
      exact z_zret' (1, upd (upd g 10 ((g 10) + 1)) 8 ((g 8) - 0)) (w' := q_X9_counts cy h0 h1 h2 h3 h4 h5 h6 h7 h8 h9 v1 v2 v3 v4 v5 v6 v7 v8 v9 v10 v11) (r0 := (fun (o : Int32 × (Nat → Int32)) => o.1)) (by simp only [n_X9_counts, ← eo_1, if_pos c_2, if_pos c_3]) C hRT (zb01 (Or.inr rfl)) hP hD hS (Nat.le_of_ble_eq_true rfl) (Nat.le_of_ble_eq_true rfl) rfl rfl dX9_counts_46
    · refine lv_iconst (v := 1) hX hB dX9_counts_38 (by decide) ?_
      refine lv_goto (tgt := 43) hX hB dX9_counts_39 (by decide) ?_
      refine z_isub (v := (g 8) - 1) C dX9_counts_43 rfl ?_
      refine z_iast C hP hD hS 1 rfl (k := 8) (zlit 8) (by decide) (by decide) (w' := [(h0, .inr (11, [.ref h1, .ref h2, .ref h3, .ref h4, .ref h5, .int v1, .int v2, .int v3, .int v4, .int v5, .ref h6, .int v6, .ref h7, .ref h8, .ref h9, .int v7, .int v8, .int v9, .int v10, .int v11])), (h1, .inl (cy 0, 64, .inl (upd (upd g 10 ((g 10) + 1)) 8 ((g 8) - 1))))]) rfl dX9_counts_44 (fun H locs hP hD hS => ?_)
      refine lv_iconst (v := 1) hX hB dX9_counts_45 (by decide) ?_
      exact z_zret' (1, upd (upd g 10 ((g 10) + 1)) 8 ((g 8) - 1)) (w' := q_X9_counts cy h0 h1 h2 h3 h4 h5 h6 h7 h8 h9 v1 v2 v3 v4 v5 v6 v7 v8 v9 v10 v11) (r0 := (fun (o : Int32 × (Nat → Int32)) => o.1)) (by simp only [n_X9_counts, ← eo_1, if_pos c_2, if_neg c_3]) C hRT (zb01 (Or.inr rfl)) hP hD hS (Nat.le_of_ble_eq_true rfl) (Nat.le_of_ble_eq_true rfl) rfl rfl dX9_counts_46
  · refine lv_iconst (v := 0) hX hB dX9_counts_18 (by decide) ?_
    exact z_zret' (0, upd g 10 ((g 10) + 1)) (w' := q_X9_counts cy h0 h1 h2 h3 h4 h5 h6 h7 h8 h9 v1 v2 v3 v4 v5 v6 v7 v8 v9 v10 v11) (r0 := (fun (o : Int32 × (Nat → Int32)) => o.1)) (by simp only [n_X9_counts, ← eo_1, if_neg c_2]) C hRT (zb01 (Or.inl rfl)) hP hD hS (Nat.le_of_ble_eq_true rfl) (Nat.le_of_ble_eq_true rfl) rfl rfl dX9_counts_19

def n_X9_isFullL (g : Nat → Int32) : Int32 × (Nat → Int32) :=
  if g 16 = 0 then
    (0, g)
  else
    if g 17 = 0 then
      (0, g)
    else
      if g 18 = 0 then
        (0, g)
      else
        if g 19 = 0 then
          (0, g)
        else
          (1, upd (upd (upd (upd g 16 0) 17 0) 18 0) 19 0)
def q_X9_isFullL (cy : Nat → ClassId) (h0 : Nat) (h1 : Nat) (h2 : Nat) (h3 : Nat) (h4 : Nat) (h5 : Nat) (h6 : Nat) (h7 : Nat) (h8 : Nat) (h9 : Nat) (v1 : Int32) (v2 : Int32) (v3 : Int32) (v4 : Int32) (v5 : Int32) (v6 : Int32) (v7 : Int32) (v8 : Int32) (v9 : Int32) (v10 : Int32) (v11 : Int32) (o : Int32 × (Nat → Int32)) : va_W := [(h0, .inr (11, [.ref h1, .ref h2, .ref h3, .ref h4, .ref h5, .int v1, .int v2, .int v3, .int v4, .int v5, .ref h6, .int v6, .ref h7, .ref h8, .ref h9, .int v7, .int v8, .int v9, .int v10, .int v11])), (h1, .inl (cy 0, 64, .inl (o.2)))]
theorem k_X9_isFullL (g : Nat → Int32)  (j : Nat) (hj : ¬ (16 ≤ j ∧ j ≤ 19)) : (n_X9_isFullL g).2 j = g j := by
  simp only [n_X9_isFullL]
  repeat (any_goals split)
  all_goals (try simp (disch := omega) only [pk_un])
theorem b_X9_isFullL (g : Nat → Int32) : (n_X9_isFullL g).1 = 0 ∨ (n_X9_isFullL g).1 = 1 := by
  simp only [n_X9_isFullL]
  repeat (any_goals split)
  all_goals (first | exact Or.inl rfl | exact Or.inr rfl)
set_option maxHeartbeats 4000000 in
set_option maxRecDepth 100000 in
theorem c_X9_isFullL (l : Launch) {E : zEn} (hE : zEok E) (D : zG) (cy : Nat → ClassId) (h0 h1 h2 h3 h4 h5 h6 h7 h8 h9 : Nat) (v1 : Int32) (v2 : Int32) (v3 : Int32) (v4 : Int32) (v5 : Int32) (v6 : Int32) (v7 : Int32) (v8 : Int32) (v9 : Int32) (v10 : Int32) (v11 : Int32) (g : Nat → Int32)  (sz : Nat) : Met l yX9_isFull (zws yX9_isFull cX9_isFull 4 (some .boolean)) { frames := 0, cells := 0, slots := 0, locals := 0 } (zPre E D cy [.ref h0, .int 16, .int 4] [(h0, .inr (11, [.ref h1, .ref h2, .ref h3, .ref h4, .ref h5, .int v1, .int v2, .int v3, .int v4, .int v5, .ref h6, .int v6, .ref h7, .ref h8, .ref h9, .int v7, .int v8, .int v9, .int v10, .int v11])), (h1, .inl (cy 0, 64, .inl (g)))] sz) (zQi D ((q_X9_isFullL cy h0 h1 h2 h3 h4 h5 h6 h7 h8 h9 v1 v2 v3 v4 v5 v6 v7 v8 v9 v10 v11) (n_X9_isFullL g)) (va_A [(h0, .inr (11, [.ref h1, .ref h2, .ref h3, .ref h4, .ref h5, .int v1, .int v2, .int v3, .int v4, .int v5, .ref h6, .int v6, .ref h7, .ref h8, .ref h9, .int v7, .int v8, .int v9, .int v10, .int v11])), (h1, .inl (cy 0, 64, .inl (g)))] sz) ((n_X9_isFullL g).1)) 0 0 (va_A [(h0, .inr (11, [.ref h1, .ref h2, .ref h3, .ref h4, .ref h5, .int v1, .int v2, .int v3, .int v4, .int v5, .ref h6, .int v6, .ref h7, .ref h8, .ref h9, .int v7, .int v8, .int v9, .int v10, .int v11])), (h1, .inl (cy 0, 64, .inl (g)))] sz) := by
  refine z_of (Qc := fun A => zQi D ((q_X9_isFullL cy h0 h1 h2 h3 h4 h5 h6 h7 h8 h9 v1 v2 v3 v4 v5 v6 v7 v8 v9 v10 v11) (n_X9_isFullL g)) A ((n_X9_isFullL g).1)) (by decide +kernel) (Nat.le_of_ble_eq_true rfl) rfl ?_
  intro pG eN sT mI below meth cO A ls C hRT hnm hA hP hD hS hE0 hl
  have hX := C.x
  have hB := C.b
  refine lv_iconst (v := 0) hX hB dX9_isFull_0 (by decide) ?_
  refine lv_istore_n (lv' := [(3, .int 0), (0, .ref h0), (1, .int 16), (2, .int 4)]) hX hB dX9_isFull_1 rfl hl (by decide) rfl (fun ls hl => ?_)
  refine lv_iload_n hX hB dX9_isFull_2 rfl (lv_at hl 0 rfl) ?_
  refine lv_iload_n hX hB dX9_isFull_3 rfl (lv_at hl 3 rfl) ?_
  refine lv_icmp_ge (tgt := 26) hX hB dX9_isFull_4 (by decide) (fun c => absurd c (by decide)) (fun _ => ?_)
  refine lv_aload_n hX hB dX9_isFull_7 rfl (lv_at hl 1 rfl) ?_
  refine fg_X9_7 C hP 0 rfl rfl dX9_isFull_8 ?_
  refine lv_iload_n hX hB dX9_isFull_11 rfl (lv_at hl 2 rfl) ?_
  refine lv_iload_n hX hB dX9_isFull_12 rfl (lv_at hl 0 rfl) ?_
  refine z_iadd (v := 16) C dX9_isFull_13 (by decide) ?_
  refine z_iald C hP 1 rfl (k := 16) (zlit 16) (by decide) (by decide) (v := g 16) rfl dX9_isFull_14 ?_
  refine lv_if_ne (tgt := 20) hX hB dX9_isFull_15 (by decide) (fun c_1 => ?_) (fun c_1 => ?_)
  · refine lv_iinc (v := 1) (lv' := [(3, .int 1), (0, .ref h0), (1, .int 16), (2, .int 4)]) hX hB dX9_isFull_20 hl (k := 0) rfl (by decide) (by decide) rfl (fun ls hl => ?_)
    refine lv_goto (tgt := 2) hX hB dX9_isFull_23 (by decide) ?_
    refine lv_iload_n hX hB dX9_isFull_2 rfl (lv_at hl 0 rfl) ?_
    refine lv_iload_n hX hB dX9_isFull_3 rfl (lv_at hl 3 rfl) ?_
    refine lv_icmp_ge (tgt := 26) hX hB dX9_isFull_4 (by decide) (fun c => absurd c (by decide)) (fun _ => ?_)
    refine lv_aload_n hX hB dX9_isFull_7 rfl (lv_at hl 1 rfl) ?_
    refine fg_X9_7 C hP 0 rfl rfl dX9_isFull_8 ?_
    refine lv_iload_n hX hB dX9_isFull_11 rfl (lv_at hl 2 rfl) ?_
    refine lv_iload_n hX hB dX9_isFull_12 rfl (lv_at hl 0 rfl) ?_
    refine z_iadd (v := 17) C dX9_isFull_13 (by decide) ?_
    refine z_iald C hP 1 rfl (k := 17) (zlit 17) (by decide) (by decide) (v := g 17) rfl dX9_isFull_14 ?_
    refine lv_if_ne (tgt := 20) hX hB dX9_isFull_15 (by decide) (fun c_2 => ?_) (fun c_2 => ?_)
    · refine lv_iinc (v := 2) (lv' := [(3, .int 2), (0, .ref h0), (1, .int 16), (2, .int 4)]) hX hB dX9_isFull_20 hl (k := 0) rfl (by decide) (by decide) rfl (fun ls hl => ?_)
      refine lv_goto (tgt := 2) hX hB dX9_isFull_23 (by decide) ?_
      refine lv_iload_n hX hB dX9_isFull_2 rfl (lv_at hl 0 rfl) ?_
      refine lv_iload_n hX hB dX9_isFull_3 rfl (lv_at hl 3 rfl) ?_
      refine lv_icmp_ge (tgt := 26) hX hB dX9_isFull_4 (by decide) (fun c => absurd c (by decide)) (fun _ => ?_)
      refine lv_aload_n hX hB dX9_isFull_7 rfl (lv_at hl 1 rfl) ?_
      refine fg_X9_7 C hP 0 rfl rfl dX9_isFull_8 ?_
      refine lv_iload_n hX hB dX9_isFull_11 rfl (lv_at hl 2 rfl) ?_
      refine lv_iload_n hX hB dX9_isFull_12 rfl (lv_at hl 0 rfl) ?_
      refine z_iadd (v := 18) C dX9_isFull_13 (by decide) ?_
      refine z_iald C hP 1 rfl (k := 18) (zlit 18) (by decide) (by decide) (v := g 18) rfl dX9_isFull_14 ?_
      refine lv_if_ne (tgt := 20) hX hB dX9_isFull_15 (by decide) (fun c_3 => ?_) (fun c_3 => ?_)
      · refine lv_iinc (v := 3) (lv' := [(3, .int 3), (0, .ref h0), (1, .int 16), (2, .int 4)]) hX hB dX9_isFull_20 hl (k := 0) rfl (by decide) (by decide) rfl (fun ls hl => ?_)
        refine lv_goto (tgt := 2) hX hB dX9_isFull_23 (by decide) ?_
        refine lv_iload_n hX hB dX9_isFull_2 rfl (lv_at hl 0 rfl) ?_
        refine lv_iload_n hX hB dX9_isFull_3 rfl (lv_at hl 3 rfl) ?_
        refine lv_icmp_ge (tgt := 26) hX hB dX9_isFull_4 (by decide) (fun c => absurd c (by decide)) (fun _ => ?_)
        refine lv_aload_n hX hB dX9_isFull_7 rfl (lv_at hl 1 rfl) ?_
        refine fg_X9_7 C hP 0 rfl rfl dX9_isFull_8 ?_
        refine lv_iload_n hX hB dX9_isFull_11 rfl (lv_at hl 2 rfl) ?_
        refine lv_iload_n hX hB dX9_isFull_12 rfl (lv_at hl 0 rfl) ?_
        refine z_iadd (v := 19) C dX9_isFull_13 (by decide) ?_
        refine z_iald C hP 1 rfl (k := 19) (zlit 19) (by decide) (by decide) (v := g 19) rfl dX9_isFull_14 ?_
        refine lv_if_ne (tgt := 20) hX hB dX9_isFull_15 (by decide) (fun c_4 => ?_) (fun c_4 => ?_)
        · refine lv_iinc (v := 4) (lv' := [(3, .int 4), (0, .ref h0), (1, .int 16), (2, .int 4)]) hX hB dX9_isFull_20 hl (k := 0) rfl (by decide) (by decide) rfl (fun ls hl => ?_)
          refine lv_goto (tgt := 2) hX hB dX9_isFull_23 (by decide) ?_
          refine lv_iload_n hX hB dX9_isFull_2 rfl (lv_at hl 0 rfl) ?_
          refine lv_iload_n hX hB dX9_isFull_3 rfl (lv_at hl 3 rfl) ?_
          refine lv_icmp_ge (tgt := 26) hX hB dX9_isFull_4 (by decide) (fun _ => ?_) (fun c => absurd (by decide) c)
          refine lv_iconst (v := 0) hX hB dX9_isFull_26 (by decide) ?_
          refine lv_istore_n (lv' := [(3, .int 0), (0, .ref h0), (1, .int 16), (2, .int 4)]) hX hB dX9_isFull_27 rfl hl (by decide) rfl (fun ls hl => ?_)
          refine lv_iload_n hX hB dX9_isFull_28 rfl (lv_at hl 0 rfl) ?_
          refine lv_iload_n hX hB dX9_isFull_29 rfl (lv_at hl 3 rfl) ?_
          refine lv_icmp_ge (tgt := 48) hX hB dX9_isFull_30 (by decide) (fun c => absurd c (by decide)) (fun _ => ?_)
          refine lv_aload_n hX hB dX9_isFull_33 rfl (lv_at hl 1 rfl) ?_
          refine fg_X9_7 C hP 0 rfl rfl dX9_isFull_34 ?_
          refine lv_iload_n hX hB dX9_isFull_37 rfl (lv_at hl 2 rfl) ?_
          refine lv_iload_n hX hB dX9_isFull_38 rfl (lv_at hl 0 rfl) ?_
          refine z_iadd (v := 16) C dX9_isFull_39 (by decide) ?_
          refine lv_iconst (v := 0) hX hB dX9_isFull_40 (by decide) ?_
          refine z_iast C hP hD hS 1 rfl (k := 16) (zlit 16) (by decide) (by decide) (w' := [(h0, .inr (11, [.ref h1, .ref h2, .ref h3, .ref h4, .ref h5, .int v1, .int v2, .int v3, .int v4, .int v5, .ref h6, .int v6, .ref h7, .ref h8, .ref h9, .int v7, .int v8, .int v9, .int v10, .int v11])), (h1, .inl (cy 0, 64, .inl (upd g 16 0)))]) rfl dX9_isFull_41 (fun H locs hP hD hS => ?_)
          refine lv_iinc (v := 1) (lv' := [(3, .int 1), (0, .ref h0), (1, .int 16), (2, .int 4)]) hX hB dX9_isFull_42 hl (k := 0) rfl (by decide) (by decide) rfl (fun ls hl => ?_)
          refine lv_goto (tgt := 28) hX hB dX9_isFull_45 (by decide) ?_
          refine lv_iload_n hX hB dX9_isFull_28 rfl (lv_at hl 0 rfl) ?_
          refine lv_iload_n hX hB dX9_isFull_29 rfl (lv_at hl 3 rfl) ?_
          refine lv_icmp_ge (tgt := 48) hX hB dX9_isFull_30 (by decide) (fun c => absurd c (by decide)) (fun _ => ?_)
          refine lv_aload_n hX hB dX9_isFull_33 rfl (lv_at hl 1 rfl) ?_
          refine fg_X9_7 C hP 0 rfl rfl dX9_isFull_34 ?_
          refine lv_iload_n hX hB dX9_isFull_37 rfl (lv_at hl 2 rfl) ?_
          refine lv_iload_n hX hB dX9_isFull_38 rfl (lv_at hl 0 rfl) ?_
          refine z_iadd (v := 17) C dX9_isFull_39 (by decide) ?_
          refine lv_iconst (v := 0) hX hB dX9_isFull_40 (by decide) ?_
          refine z_iast C hP hD hS 1 rfl (k := 17) (zlit 17) (by decide) (by decide) (w' := [(h0, .inr (11, [.ref h1, .ref h2, .ref h3, .ref h4, .ref h5, .int v1, .int v2, .int v3, .int v4, .int v5, .ref h6, .int v6, .ref h7, .ref h8, .ref h9, .int v7, .int v8, .int v9, .int v10, .int v11])), (h1, .inl (cy 0, 64, .inl (upd (upd g 16 0) 17 0)))]) rfl dX9_isFull_41 (fun H locs hP hD hS => ?_)
          refine lv_iinc (v := 2) (lv' := [(3, .int 2), (0, .ref h0), (1, .int 16), (2, .int 4)]) hX hB dX9_isFull_42 hl (k := 0) rfl (by decide) (by decide) rfl (fun ls hl => ?_)
          refine lv_goto (tgt := 28) hX hB dX9_isFull_45 (by decide) ?_
          refine lv_iload_n hX hB dX9_isFull_28 rfl (lv_at hl 0 rfl) ?_
          refine lv_iload_n hX hB dX9_isFull_29 rfl (lv_at hl 3 rfl) ?_
          refine lv_icmp_ge (tgt := 48) hX hB dX9_isFull_30 (by decide) (fun c => absurd c (by decide)) (fun _ => ?_)
          refine lv_aload_n hX hB dX9_isFull_33 rfl (lv_at hl 1 rfl) ?_
          refine fg_X9_7 C hP 0 rfl rfl dX9_isFull_34 ?_
          refine lv_iload_n hX hB dX9_isFull_37 rfl (lv_at hl 2 rfl) ?_
          refine lv_iload_n hX hB dX9_isFull_38 rfl (lv_at hl 0 rfl) ?_
          refine z_iadd (v := 18) C dX9_isFull_39 (by decide) ?_
          refine lv_iconst (v := 0) hX hB dX9_isFull_40 (by decide) ?_
          refine z_iast C hP hD hS 1 rfl (k := 18) (zlit 18) (by decide) (by decide) (w' := [(h0, .inr (11, [.ref h1, .ref h2, .ref h3, .ref h4, .ref h5, .int v1, .int v2, .int v3, .int v4, .int v5, .ref h6, .int v6, .ref h7, .ref h8, .ref h9, .int v7, .int v8, .int v9, .int v10, .int v11])), (h1, .inl (cy 0, 64, .inl (upd (upd (upd g 16 0) 17 0) 18 0)))]) rfl dX9_isFull_41 (fun H locs hP hD hS => ?_)
          refine lv_iinc (v := 3) (lv' := [(3, .int 3), (0, .ref h0), (1, .int 16), (2, .int 4)]) hX hB dX9_isFull_42 hl (k := 0) rfl (by decide) (by decide) rfl (fun ls hl => ?_)
          refine lv_goto (tgt := 28) hX hB dX9_isFull_45 (by decide) ?_
          refine lv_iload_n hX hB dX9_isFull_28 rfl (lv_at hl 0 rfl) ?_
          refine lv_iload_n hX hB dX9_isFull_29 rfl (lv_at hl 3 rfl) ?_
          refine lv_icmp_ge (tgt := 48) hX hB dX9_isFull_30 (by decide) (fun c => absurd c (by decide)) (fun _ => ?_)
          refine lv_aload_n hX hB dX9_isFull_33 rfl (lv_at hl 1 rfl) ?_
          refine fg_X9_7 C hP 0 rfl rfl dX9_isFull_34 ?_
          refine lv_iload_n hX hB dX9_isFull_37 rfl (lv_at hl 2 rfl) ?_
          refine lv_iload_n hX hB dX9_isFull_38 rfl (lv_at hl 0 rfl) ?_
          refine z_iadd (v := 19) C dX9_isFull_39 (by decide) ?_
          refine lv_iconst (v := 0) hX hB dX9_isFull_40 (by decide) ?_
          refine z_iast C hP hD hS 1 rfl (k := 19) (zlit 19) (by decide) (by decide) (w' := [(h0, .inr (11, [.ref h1, .ref h2, .ref h3, .ref h4, .ref h5, .int v1, .int v2, .int v3, .int v4, .int v5, .ref h6, .int v6, .ref h7, .ref h8, .ref h9, .int v7, .int v8, .int v9, .int v10, .int v11])), (h1, .inl (cy 0, 64, .inl (upd (upd (upd (upd g 16 0) 17 0) 18 0) 19 0)))]) rfl dX9_isFull_41 (fun H locs hP hD hS => ?_)
          refine lv_iinc (v := 4) (lv' := [(3, .int 4), (0, .ref h0), (1, .int 16), (2, .int 4)]) hX hB dX9_isFull_42 hl (k := 0) rfl (by decide) (by decide) rfl (fun ls hl => ?_)
          refine lv_goto (tgt := 28) hX hB dX9_isFull_45 (by decide) ?_
          refine lv_iload_n hX hB dX9_isFull_28 rfl (lv_at hl 0 rfl) ?_
          refine lv_iload_n hX hB dX9_isFull_29 rfl (lv_at hl 3 rfl) ?_
          refine lv_icmp_ge (tgt := 48) hX hB dX9_isFull_30 (by decide) (fun _ => ?_) (fun c => absurd (by decide) c)
          refine lv_iconst (v := 1) hX hB dX9_isFull_48 (by decide) ?_
          exact z_zret' (1, upd (upd (upd (upd g 16 0) 17 0) 18 0) 19 0) (w' := q_X9_isFullL cy h0 h1 h2 h3 h4 h5 h6 h7 h8 h9 v1 v2 v3 v4 v5 v6 v7 v8 v9 v10 v11) (r0 := (fun (o : Int32 × (Nat → Int32)) => o.1)) (by simp only [n_X9_isFullL, if_neg c_1, if_neg c_2, if_neg c_3, if_neg c_4]) C hRT (zb01 (Or.inr rfl)) hP hD hS (Nat.le_of_ble_eq_true rfl) (Nat.le_of_ble_eq_true rfl) rfl rfl dX9_isFull_49
        · refine lv_iconst (v := 0) hX hB dX9_isFull_18 (by decide) ?_
          exact z_zret' (0, g) (w' := q_X9_isFullL cy h0 h1 h2 h3 h4 h5 h6 h7 h8 h9 v1 v2 v3 v4 v5 v6 v7 v8 v9 v10 v11) (r0 := (fun (o : Int32 × (Nat → Int32)) => o.1)) (by simp only [n_X9_isFullL, if_neg c_1, if_neg c_2, if_neg c_3, if_pos c_4]) C hRT (zb01 (Or.inl rfl)) hP hD hS (Nat.le_of_ble_eq_true rfl) (Nat.le_of_ble_eq_true rfl) rfl rfl dX9_isFull_19
      · refine lv_iconst (v := 0) hX hB dX9_isFull_18 (by decide) ?_
        exact z_zret' (0, g) (w' := q_X9_isFullL cy h0 h1 h2 h3 h4 h5 h6 h7 h8 h9 v1 v2 v3 v4 v5 v6 v7 v8 v9 v10 v11) (r0 := (fun (o : Int32 × (Nat → Int32)) => o.1)) (by simp only [n_X9_isFullL, if_neg c_1, if_neg c_2, if_pos c_3]) C hRT (zb01 (Or.inl rfl)) hP hD hS (Nat.le_of_ble_eq_true rfl) (Nat.le_of_ble_eq_true rfl) rfl rfl dX9_isFull_19
    · refine lv_iconst (v := 0) hX hB dX9_isFull_18 (by decide) ?_
      exact z_zret' (0, g) (w' := q_X9_isFullL cy h0 h1 h2 h3 h4 h5 h6 h7 h8 h9 v1 v2 v3 v4 v5 v6 v7 v8 v9 v10 v11) (r0 := (fun (o : Int32 × (Nat → Int32)) => o.1)) (by simp only [n_X9_isFullL, if_neg c_1, if_pos c_2]) C hRT (zb01 (Or.inl rfl)) hP hD hS (Nat.le_of_ble_eq_true rfl) (Nat.le_of_ble_eq_true rfl) rfl rfl dX9_isFull_19
  · refine lv_iconst (v := 0) hX hB dX9_isFull_18 (by decide) ?_
    exact z_zret' (0, g) (w' := q_X9_isFullL cy h0 h1 h2 h3 h4 h5 h6 h7 h8 h9 v1 v2 v3 v4 v5 v6 v7 v8 v9 v10 v11) (r0 := (fun (o : Int32 × (Nat → Int32)) => o.1)) (by simp only [n_X9_isFullL, if_pos c_1]) C hRT (zb01 (Or.inl rfl)) hP hD hS (Nat.le_of_ble_eq_true rfl) (Nat.le_of_ble_eq_true rfl) rfl rfl dX9_isFull_19

def n_X9_isFullT (g : Nat → Int32) : Int32 × (Nat → Int32) :=
  if g 24 = 0 then
    (0, g)
  else
    if g 25 = 0 then
      (0, g)
    else
      if g 26 = 0 then
        (0, g)
      else
        if g 27 = 0 then
          (0, g)
        else
          if g 28 = 0 then
            (0, g)
          else
            (1, upd (upd (upd (upd (upd g 24 0) 25 0) 26 0) 27 0) 28 0)
def q_X9_isFullT (cy : Nat → ClassId) (h0 : Nat) (h1 : Nat) (h2 : Nat) (h3 : Nat) (h4 : Nat) (h5 : Nat) (h6 : Nat) (h7 : Nat) (h8 : Nat) (h9 : Nat) (v1 : Int32) (v2 : Int32) (v3 : Int32) (v4 : Int32) (v5 : Int32) (v6 : Int32) (v7 : Int32) (v8 : Int32) (v9 : Int32) (v10 : Int32) (v11 : Int32) (o : Int32 × (Nat → Int32)) : va_W := [(h0, .inr (11, [.ref h1, .ref h2, .ref h3, .ref h4, .ref h5, .int v1, .int v2, .int v3, .int v4, .int v5, .ref h6, .int v6, .ref h7, .ref h8, .ref h9, .int v7, .int v8, .int v9, .int v10, .int v11])), (h1, .inl (cy 0, 64, .inl (o.2)))]
theorem k_X9_isFullT (g : Nat → Int32)  (j : Nat) (hj : ¬ (24 ≤ j ∧ j ≤ 28)) : (n_X9_isFullT g).2 j = g j := by
  simp only [n_X9_isFullT]
  repeat (any_goals split)
  all_goals (try simp (disch := omega) only [pk_un])
theorem b_X9_isFullT (g : Nat → Int32) : (n_X9_isFullT g).1 = 0 ∨ (n_X9_isFullT g).1 = 1 := by
  simp only [n_X9_isFullT]
  repeat (any_goals split)
  all_goals (first | exact Or.inl rfl | exact Or.inr rfl)
set_option maxHeartbeats 4000000 in
set_option maxRecDepth 100000 in
theorem c_X9_isFullT (l : Launch) {E : zEn} (hE : zEok E) (D : zG) (cy : Nat → ClassId) (h0 h1 h2 h3 h4 h5 h6 h7 h8 h9 : Nat) (v1 : Int32) (v2 : Int32) (v3 : Int32) (v4 : Int32) (v5 : Int32) (v6 : Int32) (v7 : Int32) (v8 : Int32) (v9 : Int32) (v10 : Int32) (v11 : Int32) (g : Nat → Int32)  (sz : Nat) : Met l yX9_isFull (zws yX9_isFull cX9_isFull 4 (some .boolean)) { frames := 0, cells := 0, slots := 0, locals := 0 } (zPre E D cy [.ref h0, .int 24, .int 5] [(h0, .inr (11, [.ref h1, .ref h2, .ref h3, .ref h4, .ref h5, .int v1, .int v2, .int v3, .int v4, .int v5, .ref h6, .int v6, .ref h7, .ref h8, .ref h9, .int v7, .int v8, .int v9, .int v10, .int v11])), (h1, .inl (cy 0, 64, .inl (g)))] sz) (zQi D ((q_X9_isFullT cy h0 h1 h2 h3 h4 h5 h6 h7 h8 h9 v1 v2 v3 v4 v5 v6 v7 v8 v9 v10 v11) (n_X9_isFullT g)) (va_A [(h0, .inr (11, [.ref h1, .ref h2, .ref h3, .ref h4, .ref h5, .int v1, .int v2, .int v3, .int v4, .int v5, .ref h6, .int v6, .ref h7, .ref h8, .ref h9, .int v7, .int v8, .int v9, .int v10, .int v11])), (h1, .inl (cy 0, 64, .inl (g)))] sz) ((n_X9_isFullT g).1)) 0 0 (va_A [(h0, .inr (11, [.ref h1, .ref h2, .ref h3, .ref h4, .ref h5, .int v1, .int v2, .int v3, .int v4, .int v5, .ref h6, .int v6, .ref h7, .ref h8, .ref h9, .int v7, .int v8, .int v9, .int v10, .int v11])), (h1, .inl (cy 0, 64, .inl (g)))] sz) := by
  refine z_of (Qc := fun A => zQi D ((q_X9_isFullT cy h0 h1 h2 h3 h4 h5 h6 h7 h8 h9 v1 v2 v3 v4 v5 v6 v7 v8 v9 v10 v11) (n_X9_isFullT g)) A ((n_X9_isFullT g).1)) (by decide +kernel) (Nat.le_of_ble_eq_true rfl) rfl ?_
  intro pG eN sT mI below meth cO A ls C hRT hnm hA hP hD hS hE0 hl
  have hX := C.x
  have hB := C.b
  refine lv_iconst (v := 0) hX hB dX9_isFull_0 (by decide) ?_
  refine lv_istore_n (lv' := [(3, .int 0), (0, .ref h0), (1, .int 24), (2, .int 5)]) hX hB dX9_isFull_1 rfl hl (by decide) rfl (fun ls hl => ?_)
  refine lv_iload_n hX hB dX9_isFull_2 rfl (lv_at hl 0 rfl) ?_
  refine lv_iload_n hX hB dX9_isFull_3 rfl (lv_at hl 3 rfl) ?_
  refine lv_icmp_ge (tgt := 26) hX hB dX9_isFull_4 (by decide) (fun c => absurd c (by decide)) (fun _ => ?_)
  refine lv_aload_n hX hB dX9_isFull_7 rfl (lv_at hl 1 rfl) ?_
  refine fg_X9_7 C hP 0 rfl rfl dX9_isFull_8 ?_
  refine lv_iload_n hX hB dX9_isFull_11 rfl (lv_at hl 2 rfl) ?_
  refine lv_iload_n hX hB dX9_isFull_12 rfl (lv_at hl 0 rfl) ?_
  refine z_iadd (v := 24) C dX9_isFull_13 (by decide) ?_
  refine z_iald C hP 1 rfl (k := 24) (zlit 24) (by decide) (by decide) (v := g 24) rfl dX9_isFull_14 ?_
  refine lv_if_ne (tgt := 20) hX hB dX9_isFull_15 (by decide) (fun c_1 => ?_) (fun c_1 => ?_)
  · refine lv_iinc (v := 1) (lv' := [(3, .int 1), (0, .ref h0), (1, .int 24), (2, .int 5)]) hX hB dX9_isFull_20 hl (k := 0) rfl (by decide) (by decide) rfl (fun ls hl => ?_)
    refine lv_goto (tgt := 2) hX hB dX9_isFull_23 (by decide) ?_
    refine lv_iload_n hX hB dX9_isFull_2 rfl (lv_at hl 0 rfl) ?_
    refine lv_iload_n hX hB dX9_isFull_3 rfl (lv_at hl 3 rfl) ?_
    refine lv_icmp_ge (tgt := 26) hX hB dX9_isFull_4 (by decide) (fun c => absurd c (by decide)) (fun _ => ?_)
    refine lv_aload_n hX hB dX9_isFull_7 rfl (lv_at hl 1 rfl) ?_
    refine fg_X9_7 C hP 0 rfl rfl dX9_isFull_8 ?_
    refine lv_iload_n hX hB dX9_isFull_11 rfl (lv_at hl 2 rfl) ?_
    refine lv_iload_n hX hB dX9_isFull_12 rfl (lv_at hl 0 rfl) ?_
    refine z_iadd (v := 25) C dX9_isFull_13 (by decide) ?_
    refine z_iald C hP 1 rfl (k := 25) (zlit 25) (by decide) (by decide) (v := g 25) rfl dX9_isFull_14 ?_
    refine lv_if_ne (tgt := 20) hX hB dX9_isFull_15 (by decide) (fun c_2 => ?_) (fun c_2 => ?_)
    · refine lv_iinc (v := 2) (lv' := [(3, .int 2), (0, .ref h0), (1, .int 24), (2, .int 5)]) hX hB dX9_isFull_20 hl (k := 0) rfl (by decide) (by decide) rfl (fun ls hl => ?_)
      refine lv_goto (tgt := 2) hX hB dX9_isFull_23 (by decide) ?_
      refine lv_iload_n hX hB dX9_isFull_2 rfl (lv_at hl 0 rfl) ?_
      refine lv_iload_n hX hB dX9_isFull_3 rfl (lv_at hl 3 rfl) ?_
      refine lv_icmp_ge (tgt := 26) hX hB dX9_isFull_4 (by decide) (fun c => absurd c (by decide)) (fun _ => ?_)
      refine lv_aload_n hX hB dX9_isFull_7 rfl (lv_at hl 1 rfl) ?_
      refine fg_X9_7 C hP 0 rfl rfl dX9_isFull_8 ?_
      refine lv_iload_n hX hB dX9_isFull_11 rfl (lv_at hl 2 rfl) ?_
      refine lv_iload_n hX hB dX9_isFull_12 rfl (lv_at hl 0 rfl) ?_
      refine z_iadd (v := 26) C dX9_isFull_13 (by decide) ?_
      refine z_iald C hP 1 rfl (k := 26) (zlit 26) (by decide) (by decide) (v := g 26) rfl dX9_isFull_14 ?_
      refine lv_if_ne (tgt := 20) hX hB dX9_isFull_15 (by decide) (fun c_3 => ?_) (fun c_3 => ?_)
      · refine lv_iinc (v := 3) (lv' := [(3, .int 3), (0, .ref h0), (1, .int 24), (2, .int 5)]) hX hB dX9_isFull_20 hl (k := 0) rfl (by decide) (by decide) rfl (fun ls hl => ?_)
        refine lv_goto (tgt := 2) hX hB dX9_isFull_23 (by decide) ?_
        refine lv_iload_n hX hB dX9_isFull_2 rfl (lv_at hl 0 rfl) ?_
        refine lv_iload_n hX hB dX9_isFull_3 rfl (lv_at hl 3 rfl) ?_
        refine lv_icmp_ge (tgt := 26) hX hB dX9_isFull_4 (by decide) (fun c => absurd c (by decide)) (fun _ => ?_)
        refine lv_aload_n hX hB dX9_isFull_7 rfl (lv_at hl 1 rfl) ?_
        refine fg_X9_7 C hP 0 rfl rfl dX9_isFull_8 ?_
        refine lv_iload_n hX hB dX9_isFull_11 rfl (lv_at hl 2 rfl) ?_
        refine lv_iload_n hX hB dX9_isFull_12 rfl (lv_at hl 0 rfl) ?_
        refine z_iadd (v := 27) C dX9_isFull_13 (by decide) ?_
        refine z_iald C hP 1 rfl (k := 27) (zlit 27) (by decide) (by decide) (v := g 27) rfl dX9_isFull_14 ?_
        refine lv_if_ne (tgt := 20) hX hB dX9_isFull_15 (by decide) (fun c_4 => ?_) (fun c_4 => ?_)
        · refine lv_iinc (v := 4) (lv' := [(3, .int 4), (0, .ref h0), (1, .int 24), (2, .int 5)]) hX hB dX9_isFull_20 hl (k := 0) rfl (by decide) (by decide) rfl (fun ls hl => ?_)
          refine lv_goto (tgt := 2) hX hB dX9_isFull_23 (by decide) ?_
          refine lv_iload_n hX hB dX9_isFull_2 rfl (lv_at hl 0 rfl) ?_
          refine lv_iload_n hX hB dX9_isFull_3 rfl (lv_at hl 3 rfl) ?_
          refine lv_icmp_ge (tgt := 26) hX hB dX9_isFull_4 (by decide) (fun c => absurd c (by decide)) (fun _ => ?_)
          refine lv_aload_n hX hB dX9_isFull_7 rfl (lv_at hl 1 rfl) ?_
          refine fg_X9_7 C hP 0 rfl rfl dX9_isFull_8 ?_
          refine lv_iload_n hX hB dX9_isFull_11 rfl (lv_at hl 2 rfl) ?_
          refine lv_iload_n hX hB dX9_isFull_12 rfl (lv_at hl 0 rfl) ?_
          refine z_iadd (v := 28) C dX9_isFull_13 (by decide) ?_
          refine z_iald C hP 1 rfl (k := 28) (zlit 28) (by decide) (by decide) (v := g 28) rfl dX9_isFull_14 ?_
          refine lv_if_ne (tgt := 20) hX hB dX9_isFull_15 (by decide) (fun c_5 => ?_) (fun c_5 => ?_)
          · refine lv_iinc (v := 5) (lv' := [(3, .int 5), (0, .ref h0), (1, .int 24), (2, .int 5)]) hX hB dX9_isFull_20 hl (k := 0) rfl (by decide) (by decide) rfl (fun ls hl => ?_)
            refine lv_goto (tgt := 2) hX hB dX9_isFull_23 (by decide) ?_
            refine lv_iload_n hX hB dX9_isFull_2 rfl (lv_at hl 0 rfl) ?_
            refine lv_iload_n hX hB dX9_isFull_3 rfl (lv_at hl 3 rfl) ?_
            refine lv_icmp_ge (tgt := 26) hX hB dX9_isFull_4 (by decide) (fun _ => ?_) (fun c => absurd (by decide) c)
            refine lv_iconst (v := 0) hX hB dX9_isFull_26 (by decide) ?_
            refine lv_istore_n (lv' := [(3, .int 0), (0, .ref h0), (1, .int 24), (2, .int 5)]) hX hB dX9_isFull_27 rfl hl (by decide) rfl (fun ls hl => ?_)
            refine lv_iload_n hX hB dX9_isFull_28 rfl (lv_at hl 0 rfl) ?_
            refine lv_iload_n hX hB dX9_isFull_29 rfl (lv_at hl 3 rfl) ?_
            refine lv_icmp_ge (tgt := 48) hX hB dX9_isFull_30 (by decide) (fun c => absurd c (by decide)) (fun _ => ?_)
            refine lv_aload_n hX hB dX9_isFull_33 rfl (lv_at hl 1 rfl) ?_
            refine fg_X9_7 C hP 0 rfl rfl dX9_isFull_34 ?_
            refine lv_iload_n hX hB dX9_isFull_37 rfl (lv_at hl 2 rfl) ?_
            refine lv_iload_n hX hB dX9_isFull_38 rfl (lv_at hl 0 rfl) ?_
            refine z_iadd (v := 24) C dX9_isFull_39 (by decide) ?_
            refine lv_iconst (v := 0) hX hB dX9_isFull_40 (by decide) ?_
            refine z_iast C hP hD hS 1 rfl (k := 24) (zlit 24) (by decide) (by decide) (w' := [(h0, .inr (11, [.ref h1, .ref h2, .ref h3, .ref h4, .ref h5, .int v1, .int v2, .int v3, .int v4, .int v5, .ref h6, .int v6, .ref h7, .ref h8, .ref h9, .int v7, .int v8, .int v9, .int v10, .int v11])), (h1, .inl (cy 0, 64, .inl (upd g 24 0)))]) rfl dX9_isFull_41 (fun H locs hP hD hS => ?_)
            refine lv_iinc (v := 1) (lv' := [(3, .int 1), (0, .ref h0), (1, .int 24), (2, .int 5)]) hX hB dX9_isFull_42 hl (k := 0) rfl (by decide) (by decide) rfl (fun ls hl => ?_)
            refine lv_goto (tgt := 28) hX hB dX9_isFull_45 (by decide) ?_
            refine lv_iload_n hX hB dX9_isFull_28 rfl (lv_at hl 0 rfl) ?_
            refine lv_iload_n hX hB dX9_isFull_29 rfl (lv_at hl 3 rfl) ?_
            refine lv_icmp_ge (tgt := 48) hX hB dX9_isFull_30 (by decide) (fun c => absurd c (by decide)) (fun _ => ?_)
            refine lv_aload_n hX hB dX9_isFull_33 rfl (lv_at hl 1 rfl) ?_
            refine fg_X9_7 C hP 0 rfl rfl dX9_isFull_34 ?_
            refine lv_iload_n hX hB dX9_isFull_37 rfl (lv_at hl 2 rfl) ?_
            refine lv_iload_n hX hB dX9_isFull_38 rfl (lv_at hl 0 rfl) ?_
            refine z_iadd (v := 25) C dX9_isFull_39 (by decide) ?_
            refine lv_iconst (v := 0) hX hB dX9_isFull_40 (by decide) ?_
            refine z_iast C hP hD hS 1 rfl (k := 25) (zlit 25) (by decide) (by decide) (w' := [(h0, .inr (11, [.ref h1, .ref h2, .ref h3, .ref h4, .ref h5, .int v1, .int v2, .int v3, .int v4, .int v5, .ref h6, .int v6, .ref h7, .ref h8, .ref h9, .int v7, .int v8, .int v9, .int v10, .int v11])), (h1, .inl (cy 0, 64, .inl (upd (upd g 24 0) 25 0)))]) rfl dX9_isFull_41 (fun H locs hP hD hS => ?_)
            refine lv_iinc (v := 2) (lv' := [(3, .int 2), (0, .ref h0), (1, .int 24), (2, .int 5)]) hX hB dX9_isFull_42 hl (k := 0) rfl (by decide) (by decide) rfl (fun ls hl => ?_)
            refine lv_goto (tgt := 28) hX hB dX9_isFull_45 (by decide) ?_
            refine lv_iload_n hX hB dX9_isFull_28 rfl (lv_at hl 0 rfl) ?_
            refine lv_iload_n hX hB dX9_isFull_29 rfl (lv_at hl 3 rfl) ?_
            refine lv_icmp_ge (tgt := 48) hX hB dX9_isFull_30 (by decide) (fun c => absurd c (by decide)) (fun _ => ?_)
            refine lv_aload_n hX hB dX9_isFull_33 rfl (lv_at hl 1 rfl) ?_
            refine fg_X9_7 C hP 0 rfl rfl dX9_isFull_34 ?_
            refine lv_iload_n hX hB dX9_isFull_37 rfl (lv_at hl 2 rfl) ?_
            refine lv_iload_n hX hB dX9_isFull_38 rfl (lv_at hl 0 rfl) ?_
            refine z_iadd (v := 26) C dX9_isFull_39 (by decide) ?_
            refine lv_iconst (v := 0) hX hB dX9_isFull_40 (by decide) ?_
            refine z_iast C hP hD hS 1 rfl (k := 26) (zlit 26) (by decide) (by decide) (w' := [(h0, .inr (11, [.ref h1, .ref h2, .ref h3, .ref h4, .ref h5, .int v1, .int v2, .int v3, .int v4, .int v5, .ref h6, .int v6, .ref h7, .ref h8, .ref h9, .int v7, .int v8, .int v9, .int v10, .int v11])), (h1, .inl (cy 0, 64, .inl (upd (upd (upd g 24 0) 25 0) 26 0)))]) rfl dX9_isFull_41 (fun H locs hP hD hS => ?_)
            refine lv_iinc (v := 3) (lv' := [(3, .int 3), (0, .ref h0), (1, .int 24), (2, .int 5)]) hX hB dX9_isFull_42 hl (k := 0) rfl (by decide) (by decide) rfl (fun ls hl => ?_)
            refine lv_goto (tgt := 28) hX hB dX9_isFull_45 (by decide) ?_
            refine lv_iload_n hX hB dX9_isFull_28 rfl (lv_at hl 0 rfl) ?_
            refine lv_iload_n hX hB dX9_isFull_29 rfl (lv_at hl 3 rfl) ?_
            refine lv_icmp_ge (tgt := 48) hX hB dX9_isFull_30 (by decide) (fun c => absurd c (by decide)) (fun _ => ?_)
            refine lv_aload_n hX hB dX9_isFull_33 rfl (lv_at hl 1 rfl) ?_
            refine fg_X9_7 C hP 0 rfl rfl dX9_isFull_34 ?_
            refine lv_iload_n hX hB dX9_isFull_37 rfl (lv_at hl 2 rfl) ?_
            refine lv_iload_n hX hB dX9_isFull_38 rfl (lv_at hl 0 rfl) ?_
            refine z_iadd (v := 27) C dX9_isFull_39 (by decide) ?_
            refine lv_iconst (v := 0) hX hB dX9_isFull_40 (by decide) ?_
            refine z_iast C hP hD hS 1 rfl (k := 27) (zlit 27) (by decide) (by decide) (w' := [(h0, .inr (11, [.ref h1, .ref h2, .ref h3, .ref h4, .ref h5, .int v1, .int v2, .int v3, .int v4, .int v5, .ref h6, .int v6, .ref h7, .ref h8, .ref h9, .int v7, .int v8, .int v9, .int v10, .int v11])), (h1, .inl (cy 0, 64, .inl (upd (upd (upd (upd g 24 0) 25 0) 26 0) 27 0)))]) rfl dX9_isFull_41 (fun H locs hP hD hS => ?_)
            refine lv_iinc (v := 4) (lv' := [(3, .int 4), (0, .ref h0), (1, .int 24), (2, .int 5)]) hX hB dX9_isFull_42 hl (k := 0) rfl (by decide) (by decide) rfl (fun ls hl => ?_)
            refine lv_goto (tgt := 28) hX hB dX9_isFull_45 (by decide) ?_
            refine lv_iload_n hX hB dX9_isFull_28 rfl (lv_at hl 0 rfl) ?_
            refine lv_iload_n hX hB dX9_isFull_29 rfl (lv_at hl 3 rfl) ?_
            refine lv_icmp_ge (tgt := 48) hX hB dX9_isFull_30 (by decide) (fun c => absurd c (by decide)) (fun _ => ?_)
            refine lv_aload_n hX hB dX9_isFull_33 rfl (lv_at hl 1 rfl) ?_
            refine fg_X9_7 C hP 0 rfl rfl dX9_isFull_34 ?_
            refine lv_iload_n hX hB dX9_isFull_37 rfl (lv_at hl 2 rfl) ?_
            refine lv_iload_n hX hB dX9_isFull_38 rfl (lv_at hl 0 rfl) ?_
            refine z_iadd (v := 28) C dX9_isFull_39 (by decide) ?_
            refine lv_iconst (v := 0) hX hB dX9_isFull_40 (by decide) ?_
            refine z_iast C hP hD hS 1 rfl (k := 28) (zlit 28) (by decide) (by decide) (w' := [(h0, .inr (11, [.ref h1, .ref h2, .ref h3, .ref h4, .ref h5, .int v1, .int v2, .int v3, .int v4, .int v5, .ref h6, .int v6, .ref h7, .ref h8, .ref h9, .int v7, .int v8, .int v9, .int v10, .int v11])), (h1, .inl (cy 0, 64, .inl (upd (upd (upd (upd (upd g 24 0) 25 0) 26 0) 27 0) 28 0)))]) rfl dX9_isFull_41 (fun H locs hP hD hS => ?_)
            refine lv_iinc (v := 5) (lv' := [(3, .int 5), (0, .ref h0), (1, .int 24), (2, .int 5)]) hX hB dX9_isFull_42 hl (k := 0) rfl (by decide) (by decide) rfl (fun ls hl => ?_)
            refine lv_goto (tgt := 28) hX hB dX9_isFull_45 (by decide) ?_
            refine lv_iload_n hX hB dX9_isFull_28 rfl (lv_at hl 0 rfl) ?_
            refine lv_iload_n hX hB dX9_isFull_29 rfl (lv_at hl 3 rfl) ?_
            refine lv_icmp_ge (tgt := 48) hX hB dX9_isFull_30 (by decide) (fun _ => ?_) (fun c => absurd (by decide) c)
            refine lv_iconst (v := 1) hX hB dX9_isFull_48 (by decide) ?_
            exact z_zret' (1, upd (upd (upd (upd (upd g 24 0) 25 0) 26 0) 27 0) 28 0) (w' := q_X9_isFullT cy h0 h1 h2 h3 h4 h5 h6 h7 h8 h9 v1 v2 v3 v4 v5 v6 v7 v8 v9 v10 v11) (r0 := (fun (o : Int32 × (Nat → Int32)) => o.1)) (by simp only [n_X9_isFullT, if_neg c_1, if_neg c_2, if_neg c_3, if_neg c_4, if_neg c_5]) C hRT (zb01 (Or.inr rfl)) hP hD hS (Nat.le_of_ble_eq_true rfl) (Nat.le_of_ble_eq_true rfl) rfl rfl dX9_isFull_49
          · refine lv_iconst (v := 0) hX hB dX9_isFull_18 (by decide) ?_
            exact z_zret' (0, g) (w' := q_X9_isFullT cy h0 h1 h2 h3 h4 h5 h6 h7 h8 h9 v1 v2 v3 v4 v5 v6 v7 v8 v9 v10 v11) (r0 := (fun (o : Int32 × (Nat → Int32)) => o.1)) (by simp only [n_X9_isFullT, if_neg c_1, if_neg c_2, if_neg c_3, if_neg c_4, if_pos c_5]) C hRT (zb01 (Or.inl rfl)) hP hD hS (Nat.le_of_ble_eq_true rfl) (Nat.le_of_ble_eq_true rfl) rfl rfl dX9_isFull_19
        · refine lv_iconst (v := 0) hX hB dX9_isFull_18 (by decide) ?_
          exact z_zret' (0, g) (w' := q_X9_isFullT cy h0 h1 h2 h3 h4 h5 h6 h7 h8 h9 v1 v2 v3 v4 v5 v6 v7 v8 v9 v10 v11) (r0 := (fun (o : Int32 × (Nat → Int32)) => o.1)) (by simp only [n_X9_isFullT, if_neg c_1, if_neg c_2, if_neg c_3, if_pos c_4]) C hRT (zb01 (Or.inl rfl)) hP hD hS (Nat.le_of_ble_eq_true rfl) (Nat.le_of_ble_eq_true rfl) rfl rfl dX9_isFull_19
      · refine lv_iconst (v := 0) hX hB dX9_isFull_18 (by decide) ?_
        exact z_zret' (0, g) (w' := q_X9_isFullT cy h0 h1 h2 h3 h4 h5 h6 h7 h8 h9 v1 v2 v3 v4 v5 v6 v7 v8 v9 v10 v11) (r0 := (fun (o : Int32 × (Nat → Int32)) => o.1)) (by simp only [n_X9_isFullT, if_neg c_1, if_neg c_2, if_pos c_3]) C hRT (zb01 (Or.inl rfl)) hP hD hS (Nat.le_of_ble_eq_true rfl) (Nat.le_of_ble_eq_true rfl) rfl rfl dX9_isFull_19
    · refine lv_iconst (v := 0) hX hB dX9_isFull_18 (by decide) ?_
      exact z_zret' (0, g) (w' := q_X9_isFullT cy h0 h1 h2 h3 h4 h5 h6 h7 h8 h9 v1 v2 v3 v4 v5 v6 v7 v8 v9 v10 v11) (r0 := (fun (o : Int32 × (Nat → Int32)) => o.1)) (by simp only [n_X9_isFullT, if_neg c_1, if_pos c_2]) C hRT (zb01 (Or.inl rfl)) hP hD hS (Nat.le_of_ble_eq_true rfl) (Nat.le_of_ble_eq_true rfl) rfl rfl dX9_isFull_19
  · refine lv_iconst (v := 0) hX hB dX9_isFull_18 (by decide) ?_
    exact z_zret' (0, g) (w' := q_X9_isFullT cy h0 h1 h2 h3 h4 h5 h6 h7 h8 h9 v1 v2 v3 v4 v5 v6 v7 v8 v9 v10 v11) (r0 := (fun (o : Int32 × (Nat → Int32)) => o.1)) (by simp only [n_X9_isFullT, if_pos c_1]) C hRT (zb01 (Or.inl rfl)) hP hD hS (Nat.le_of_ble_eq_true rfl) (Nat.le_of_ble_eq_true rfl) rfl rfl dX9_isFull_19

def n_X9_hitsLane (g : Nat → Int32) (i : Nat) : Int32 × (Nat → Int32) :=
  let o_1 := n_X9_counts g
  if o_1.1 = 0 then
    (0, o_1.2)
  else
    if g (16 + i) = 1 then
      let o_8 := n_X9_scores o_1.2 0 10
      let o_9 := n_X9_isFullL (upd o_8.2 (16 + i) 1)
      if o_9.1 = 0 then
        (o_8.1, o_9.2)
      else
        if 6 ≤ g 5 then
          (o_8.1, upd o_9.2 5 ((g 5) + 0))
        else
          (o_8.1, upd o_9.2 5 ((g 5) + 1))
    else
      let o_4 := n_X9_scores o_1.2 0 100
      let o_5 := n_X9_isFullL (upd o_4.2 (16 + i) 1)
      if o_5.1 = 0 then
        (o_4.1, o_5.2)
      else
        if 6 ≤ g 5 then
          (o_4.1, upd o_5.2 5 ((g 5) + 0))
        else
          (o_4.1, upd o_5.2 5 ((g 5) + 1))
def q_X9_hitsLane (cy : Nat → ClassId) (h0 : Nat) (h1 : Nat) (h2 : Nat) (h3 : Nat) (h4 : Nat) (h5 : Nat) (h6 : Nat) (h7 : Nat) (h8 : Nat) (h9 : Nat) (v1 : Int32) (v2 : Int32) (v3 : Int32) (v4 : Int32) (v5 : Int32) (v6 : Int32) (v7 : Int32) (v8 : Int32) (v9 : Int32) (v10 : Int32) (v11 : Int32) (o : Int32 × (Nat → Int32)) : va_W := [(h0, .inr (11, [.ref h1, .ref h2, .ref h3, .ref h4, .ref h5, .int v1, .int v2, .int v3, .int v4, .int v5, .ref h6, .int v6, .ref h7, .ref h8, .ref h9, .int v7, .int v8, .int v9, .int v10, .int v11])), (h1, .inl (cy 0, 64, .inl (o.2)))]
theorem k_X9_hitsLane (g : Nat → Int32) (i : Nat)  (j : Nat) (hj : j ≠ 5 ∧ j ≠ 8 ∧ j ≠ 10 ∧ j < 16) : (n_X9_hitsLane g i).2 j = g j := by
  simp only [n_X9_hitsLane]
  repeat (any_goals split)
  all_goals (try simp (disch := omega) only [pk_un, k_X9_counts, k_X9_isFullL, k_X9_scores])
set_option maxHeartbeats 4000000 in
set_option maxRecDepth 100000 in
theorem c_X9_hitsLane (l : Launch) {E : zEn} (hE : zEok E) (D : zG) (cy : Nat → ClassId) (h0 h1 h2 h3 h4 h5 h6 h7 h8 h9 : Nat) (v1 : Int32) (v2 : Int32) (v3 : Int32) (v4 : Int32) (v5 : Int32) (v6 : Int32) (v7 : Int32) (v8 : Int32) (v9 : Int32) (v10 : Int32) (v11 : Int32) (g : Nat → Int32) (x : Int32) (i : Nat) (hx : zi x i) (hxb : i ≤ 3) (hc : zle (g 3) 3) (sz : Nat) : Met l yX9_hitsLane (zws yX9_hitsLane cX9_hitsLane 3 (some .int)) { frames := 2, cells := 0, slots := 0, locals := 45 } (zPre E D cy [.ref h0, .int x] [(h0, .inr (11, [.ref h1, .ref h2, .ref h3, .ref h4, .ref h5, .int v1, .int v2, .int v3, .int v4, .int v5, .ref h6, .int v6, .ref h7, .ref h8, .ref h9, .int v7, .int v8, .int v9, .int v10, .int v11])), (h1, .inl (cy 0, 64, .inl (g)))] sz) (zQi D ((q_X9_hitsLane cy h0 h1 h2 h3 h4 h5 h6 h7 h8 h9 v1 v2 v3 v4 v5 v6 v7 v8 v9 v10 v11) (n_X9_hitsLane g i)) (va_A [(h0, .inr (11, [.ref h1, .ref h2, .ref h3, .ref h4, .ref h5, .int v1, .int v2, .int v3, .int v4, .int v5, .ref h6, .int v6, .ref h7, .ref h8, .ref h9, .int v7, .int v8, .int v9, .int v10, .int v11])), (h1, .inl (cy 0, 64, .inl (g)))] sz) ((n_X9_hitsLane g i).1)) 0 0 (va_A [(h0, .inr (11, [.ref h1, .ref h2, .ref h3, .ref h4, .ref h5, .int v1, .int v2, .int v3, .int v4, .int v5, .ref h6, .int v6, .ref h7, .ref h8, .ref h9, .int v7, .int v8, .int v9, .int v10, .int v11])), (h1, .inl (cy 0, 64, .inl (g)))] sz) := by
  refine z_of (Qc := fun A => zQi D ((q_X9_hitsLane cy h0 h1 h2 h3 h4 h5 h6 h7 h8 h9 v1 v2 v3 v4 v5 v6 v7 v8 v9 v10 v11) (n_X9_hitsLane g i)) A ((n_X9_hitsLane g i).1)) (by decide +kernel) (Nat.le_of_ble_eq_true rfl) rfl ?_
  intro pG eN sT mI below meth cO A ls C hRT hnm hA hP hD hS hE0 hl
  have hX := C.x
  have hB := C.b
  have hc_ := hc.2
  refine lv_aload_n hX hB dX9_hitsLane_0 rfl (lv_at hl 0 rfl) ?_
  refine z_callVi (isC := [0, 1]) (isR := []) (isO := [0, 1]) (n_X9_counts g) (q_X9_counts cy h0 h1 h2 h3 h4 h5 h6 h7 h8 h9 v1 v2 v3 v4 v5 v6 v7 v8 v9 v10 v11) (fun o_1 => [(h0, .inr (11, [.ref h1, .ref h2, .ref h3, .ref h4, .ref h5, .int v1, .int v2, .int v3, .int v4, .int v5, .ref h6, .int v6, .ref h7, .ref h8, .ref h9, .int v7, .int v8, .int v9, .int v10, .int v11])), (h1, .inl (cy 0, 64, .inl (o_1.2)))]) (fun o_1 => o_1.1) (c_X9_counts l hE D cy h0 h1 h2 h3 h4 h5 h6 h7 h8 h9 v1 v2 v3 v4 v5 v6 v7 v8 v9 v10 v11 g ) hE C zs_X9_116 ⟨Nat.le_of_ble_eq_true rfl, Nat.le_of_ble_eq_true rfl⟩ hP hD hS hA hE0 ⟨rfl, rfl, rfl, by decide, rfl, rfl, rfl⟩ 0 rfl rfl rfl rfl hl.1 (Nat.le_of_ble_eq_true rfl) rfl dX9_hitsLane_1 ⟨Nat.le_of_ble_eq_true rfl, Nat.le_of_ble_eq_true rfl⟩ (fun o_1 H locs eo_1 hP hD hS => ?_)
  refine lv_if_ne (tgt := 9) hX hB dX9_hitsLane_4 (by decide) (fun c_2 => ?_) (fun c_2 => ?_)
  · refine lv_aload_n hX hB dX9_hitsLane_9 rfl (lv_at hl 0 rfl) ?_
    refine lv_iconst (v := 0) hX hB dX9_hitsLane_10 (by decide) ?_
    refine lv_aload_n hX hB dX9_hitsLane_11 rfl (lv_at hl 0 rfl) ?_
    refine fg_X9_7 C hP 0 rfl rfl dX9_hitsLane_12 ?_
    refine lv_bipush (v := 16) hX hB dX9_hitsLane_15 (by decide) ?_
    refine lv_iload_n hX hB dX9_hitsLane_17 rfl (lv_at hl 1 rfl) ?_
    refine z_iadd (v := nI (16 + i)) C dX9_hitsLane_18 (zi_add (zlit 16) hx) ?_
    refine z_iald C hP 1 rfl (k := 16 + i) (zi_i (16 + i)) (by omega) (by decide) (v := g (16 + i)) (show o_1.2 (16 + i) = g (16 + i) by rw [eo_1]; exact k_X9_counts g (16 + i) (by omega)) dX9_hitsLane_19 ?_
    refine lv_iconst (v := 1) hX hB dX9_hitsLane_20 (by decide) ?_
    refine lv_icmp_ne (tgt := 29) hX hB dX9_hitsLane_21 (by decide) (fun c_3 => ?_) (fun c_3 => ?_)
    · refine lv_bipush (v := 100) hX hB dX9_hitsLane_29 (by decide) ?_
      refine z_callVi (isC := [0, 1]) (isR := []) (isO := [0, 1]) (n_X9_scores o_1.2 0 100) (q_X9_scores cy h0 h1 h2 h3 h4 h5 h6 h7 h8 h9 v1 v2 v3 v4 v5 v6 v7 v8 v9 v10 v11) (fun o_4 => [(h0, .inr (11, [.ref h1, .ref h2, .ref h3, .ref h4, .ref h5, .int v1, .int v2, .int v3, .int v4, .int v5, .ref h6, .int v6, .ref h7, .ref h8, .ref h9, .int v7, .int v8, .int v9, .int v10, .int v11])), (h1, .inl (cy 0, 64, .inl (o_4.2)))]) (fun o_4 => o_4.1) (c_X9_scores l hE D cy h0 h1 h2 h3 h4 h5 h6 h7 h8 h9 v1 v2 v3 v4 v5 v6 v7 v8 v9 v10 v11 o_1.2 0 0 100 (zlit 0) (by omega) (zle_of (zi_tr (show o_1.2 3 = g 3 by rw [eo_1]; exact k_X9_counts g 3 (by omega)) hc.1) (by omega) (by decide))) hE C zs_X9_119 ⟨Nat.le_of_ble_eq_true rfl, Nat.le_of_ble_eq_true rfl⟩ hP hD hS hA hE0 ⟨rfl, rfl, rfl, by decide, rfl, rfl, rfl⟩ 0 rfl rfl rfl rfl hl.1 (Nat.le_of_ble_eq_true rfl) rfl dX9_hitsLane_31 ⟨Nat.le_of_ble_eq_true rfl, Nat.le_of_ble_eq_true rfl⟩ (fun o_4 H locs eo_4 hP hD hS => ?_)
      refine lv_istore_n (lv' := [(2, .int o_4.1), (0, .ref h0), (1, .int x)]) hX hB dX9_hitsLane_34 rfl hl (by decide) rfl (fun ls hl => ?_)
      refine lv_aload_n hX hB dX9_hitsLane_35 rfl (lv_at hl 1 rfl) ?_
      refine fg_X9_7 C hP 0 rfl rfl dX9_hitsLane_36 ?_
      refine lv_bipush (v := 16) hX hB dX9_hitsLane_39 (by decide) ?_
      refine lv_iload_n hX hB dX9_hitsLane_41 rfl (lv_at hl 2 rfl) ?_
      refine z_iadd (v := nI (16 + i)) C dX9_hitsLane_42 (zi_add (zlit 16) hx) ?_
      refine lv_iconst (v := 1) hX hB dX9_hitsLane_43 (by decide) ?_
      refine z_iast C hP hD hS 1 rfl (k := 16 + i) (zi_i (16 + i)) (by omega) (by decide) (w' := [(h0, .inr (11, [.ref h1, .ref h2, .ref h3, .ref h4, .ref h5, .int v1, .int v2, .int v3, .int v4, .int v5, .ref h6, .int v6, .ref h7, .ref h8, .ref h9, .int v7, .int v8, .int v9, .int v10, .int v11])), (h1, .inl (cy 0, 64, .inl (upd o_4.2 (16 + i) 1)))]) rfl dX9_hitsLane_44 (fun H locs hP hD hS => ?_)
      refine lv_aload_n hX hB dX9_hitsLane_45 rfl (lv_at hl 1 rfl) ?_
      refine lv_bipush (v := 16) hX hB dX9_hitsLane_46 (by decide) ?_
      refine lv_iconst (v := 4) hX hB dX9_hitsLane_48 (by decide) ?_
      refine z_callVi (isC := [0, 1]) (isR := []) (isO := [0, 1]) (n_X9_isFullL (upd o_4.2 (16 + i) 1)) (q_X9_isFullL cy h0 h1 h2 h3 h4 h5 h6 h7 h8 h9 v1 v2 v3 v4 v5 v6 v7 v8 v9 v10 v11) (fun o_5 => [(h0, .inr (11, [.ref h1, .ref h2, .ref h3, .ref h4, .ref h5, .int v1, .int v2, .int v3, .int v4, .int v5, .ref h6, .int v6, .ref h7, .ref h8, .ref h9, .int v7, .int v8, .int v9, .int v10, .int v11])), (h1, .inl (cy 0, 64, .inl (o_5.2)))]) (fun o_5 => o_5.1) (c_X9_isFullL l hE D cy h0 h1 h2 h3 h4 h5 h6 h7 h8 h9 v1 v2 v3 v4 v5 v6 v7 v8 v9 v10 v11 (upd o_4.2 (16 + i) 1) ) hE C zs_X9_123 ⟨Nat.le_of_ble_eq_true rfl, Nat.le_of_ble_eq_true rfl⟩ hP hD hS hA hE0 ⟨rfl, rfl, rfl, by decide, rfl, rfl, rfl⟩ 0 rfl rfl rfl rfl hl.1 (Nat.le_of_ble_eq_true rfl) rfl dX9_hitsLane_49 ⟨Nat.le_of_ble_eq_true rfl, Nat.le_of_ble_eq_true rfl⟩ (fun o_5 H locs eo_5 hP hD hS => ?_)
      refine lv_if_eq (tgt := 80) hX hB dX9_hitsLane_52 (by decide) (fun c_6 => ?_) (fun c_6 => ?_)
      · refine lv_iload_n hX hB dX9_hitsLane_80 rfl (lv_at hl 0 rfl) ?_
        exact z_iret' (o_4.1, o_5.2) (w' := q_X9_hitsLane cy h0 h1 h2 h3 h4 h5 h6 h7 h8 h9 v1 v2 v3 v4 v5 v6 v7 v8 v9 v10 v11) (r0 := (fun (o : Int32 × (Nat → Int32)) => o.1)) (by simp only [n_X9_hitsLane, ← eo_1, if_neg c_2, if_neg c_3, ← eo_4, ← eo_5, if_pos c_6]) C hRT hP hD hS (Nat.le_of_ble_eq_true rfl) (Nat.le_of_ble_eq_true rfl) rfl rfl dX9_hitsLane_81
      · refine lv_aload_n hX hB dX9_hitsLane_55 rfl (lv_at hl 1 rfl) ?_
        refine fg_X9_7 C hP 0 rfl rfl dX9_hitsLane_56 ?_
        refine lv_iconst (v := 5) hX hB dX9_hitsLane_59 (by decide) ?_
        refine lv_dup2_11 hX hB dX9_hitsLane_60 rfl rfl ?_
        refine z_iald C hP 1 rfl (k := 5) (zlit 5) (by decide) (by decide) (v := g 5) ((show o_5.2 5 = (upd o_4.2 (16 + i) 1) 5 by rw [eo_5]; exact k_X9_isFullL (upd o_4.2 (16 + i) 1) 5 (by omega)).trans ((pk_un (by omega)).trans ((show o_4.2 5 = o_1.2 5 by rw [eo_4]; exact k_X9_scores o_1.2 0 100 5 (by omega)).trans (show o_1.2 5 = g 5 by rw [eo_1]; exact k_X9_counts g 5 (by omega))))) dX9_hitsLane_61 ?_
        refine lv_aload_n hX hB dX9_hitsLane_62 rfl (lv_at hl 1 rfl) ?_
        refine fg_X9_7 C hP 0 rfl rfl dX9_hitsLane_63 ?_
        refine lv_iconst (v := 5) hX hB dX9_hitsLane_66 (by decide) ?_
        refine z_iald C hP 1 rfl (k := 5) (zlit 5) (by decide) (by decide) (v := g 5) ((show o_5.2 5 = (upd o_4.2 (16 + i) 1) 5 by rw [eo_5]; exact k_X9_isFullL (upd o_4.2 (16 + i) 1) 5 (by omega)).trans ((pk_un (by omega)).trans ((show o_4.2 5 = o_1.2 5 by rw [eo_4]; exact k_X9_scores o_1.2 0 100 5 (by omega)).trans (show o_1.2 5 = g 5 by rw [eo_1]; exact k_X9_counts g 5 (by omega))))) dX9_hitsLane_67 ?_
        refine lv_bipush (v := 6) hX hB dX9_hitsLane_68 (by decide) ?_
        refine lv_icmp_ge (tgt := 77) hX hB dX9_hitsLane_70 (by decide) (fun c_7 => ?_) (fun c_7 => ?_)
        · refine lv_iconst (v := 0) hX hB dX9_hitsLane_77 (by decide) ?_
          refine z_iadd (v := (g 5) + 0) C dX9_hitsLane_78 rfl ?_
          refine z_iast C hP hD hS 1 rfl (k := 5) (zlit 5) (by decide) (by decide) (w' := [(h0, .inr (11, [.ref h1, .ref h2, .ref h3, .ref h4, .ref h5, .int v1, .int v2, .int v3, .int v4, .int v5, .ref h6, .int v6, .ref h7, .ref h8, .ref h9, .int v7, .int v8, .int v9, .int v10, .int v11])), (h1, .inl (cy 0, 64, .inl (upd o_5.2 5 ((g 5) + 0))))]) rfl dX9_hitsLane_79 (fun H locs hP hD hS => ?_)
          refine lv_iload_n hX hB dX9_hitsLane_80 rfl (lv_at hl 0 rfl) ?_
          exact z_iret' (o_4.1, upd o_5.2 5 ((g 5) + 0)) (w' := q_X9_hitsLane cy h0 h1 h2 h3 h4 h5 h6 h7 h8 h9 v1 v2 v3 v4 v5 v6 v7 v8 v9 v10 v11) (r0 := (fun (o : Int32 × (Nat → Int32)) => o.1)) (by simp only [n_X9_hitsLane, ← eo_1, if_neg c_2, if_neg c_3, ← eo_4, ← eo_5, if_neg c_6, if_pos c_7]) C hRT hP hD hS (Nat.le_of_ble_eq_true rfl) (Nat.le_of_ble_eq_true rfl) rfl rfl dX9_hitsLane_81
        · refine lv_iconst (v := 1) hX hB dX9_hitsLane_73 (by decide) ?_
          refine lv_goto (tgt := 78) hX hB dX9_hitsLane_74 (by decide) ?_
          refine z_iadd (v := (g 5) + 1) C dX9_hitsLane_78 rfl ?_
          refine z_iast C hP hD hS 1 rfl (k := 5) (zlit 5) (by decide) (by decide) (w' := [(h0, .inr (11, [.ref h1, .ref h2, .ref h3, .ref h4, .ref h5, .int v1, .int v2, .int v3, .int v4, .int v5, .ref h6, .int v6, .ref h7, .ref h8, .ref h9, .int v7, .int v8, .int v9, .int v10, .int v11])), (h1, .inl (cy 0, 64, .inl (upd o_5.2 5 ((g 5) + 1))))]) rfl dX9_hitsLane_79 (fun H locs hP hD hS => ?_)
          refine lv_iload_n hX hB dX9_hitsLane_80 rfl (lv_at hl 0 rfl) ?_
          exact z_iret' (o_4.1, upd o_5.2 5 ((g 5) + 1)) (w' := q_X9_hitsLane cy h0 h1 h2 h3 h4 h5 h6 h7 h8 h9 v1 v2 v3 v4 v5 v6 v7 v8 v9 v10 v11) (r0 := (fun (o : Int32 × (Nat → Int32)) => o.1)) (by simp only [n_X9_hitsLane, ← eo_1, if_neg c_2, if_neg c_3, ← eo_4, ← eo_5, if_neg c_6, if_neg c_7]) C hRT hP hD hS (Nat.le_of_ble_eq_true rfl) (Nat.le_of_ble_eq_true rfl) rfl rfl dX9_hitsLane_81
    · refine lv_bipush (v := 10) hX hB dX9_hitsLane_24 (by decide) ?_
      refine lv_goto (tgt := 31) hX hB dX9_hitsLane_26 (by decide) ?_
      refine z_callVi (isC := [0, 1]) (isR := []) (isO := [0, 1]) (n_X9_scores o_1.2 0 10) (q_X9_scores cy h0 h1 h2 h3 h4 h5 h6 h7 h8 h9 v1 v2 v3 v4 v5 v6 v7 v8 v9 v10 v11) (fun o_8 => [(h0, .inr (11, [.ref h1, .ref h2, .ref h3, .ref h4, .ref h5, .int v1, .int v2, .int v3, .int v4, .int v5, .ref h6, .int v6, .ref h7, .ref h8, .ref h9, .int v7, .int v8, .int v9, .int v10, .int v11])), (h1, .inl (cy 0, 64, .inl (o_8.2)))]) (fun o_8 => o_8.1) (c_X9_scores l hE D cy h0 h1 h2 h3 h4 h5 h6 h7 h8 h9 v1 v2 v3 v4 v5 v6 v7 v8 v9 v10 v11 o_1.2 0 0 10 (zlit 0) (by omega) (zle_of (zi_tr (show o_1.2 3 = g 3 by rw [eo_1]; exact k_X9_counts g 3 (by omega)) hc.1) (by omega) (by decide))) hE C zs_X9_119 ⟨Nat.le_of_ble_eq_true rfl, Nat.le_of_ble_eq_true rfl⟩ hP hD hS hA hE0 ⟨rfl, rfl, rfl, by decide, rfl, rfl, rfl⟩ 0 rfl rfl rfl rfl hl.1 (Nat.le_of_ble_eq_true rfl) rfl dX9_hitsLane_31 ⟨Nat.le_of_ble_eq_true rfl, Nat.le_of_ble_eq_true rfl⟩ (fun o_8 H locs eo_8 hP hD hS => ?_)
      refine lv_istore_n (lv' := [(2, .int o_8.1), (0, .ref h0), (1, .int x)]) hX hB dX9_hitsLane_34 rfl hl (by decide) rfl (fun ls hl => ?_)
      refine lv_aload_n hX hB dX9_hitsLane_35 rfl (lv_at hl 1 rfl) ?_
      refine fg_X9_7 C hP 0 rfl rfl dX9_hitsLane_36 ?_
      refine lv_bipush (v := 16) hX hB dX9_hitsLane_39 (by decide) ?_
      refine lv_iload_n hX hB dX9_hitsLane_41 rfl (lv_at hl 2 rfl) ?_
      refine z_iadd (v := nI (16 + i)) C dX9_hitsLane_42 (zi_add (zlit 16) hx) ?_
      refine lv_iconst (v := 1) hX hB dX9_hitsLane_43 (by decide) ?_
      refine z_iast C hP hD hS 1 rfl (k := 16 + i) (zi_i (16 + i)) (by omega) (by decide) (w' := [(h0, .inr (11, [.ref h1, .ref h2, .ref h3, .ref h4, .ref h5, .int v1, .int v2, .int v3, .int v4, .int v5, .ref h6, .int v6, .ref h7, .ref h8, .ref h9, .int v7, .int v8, .int v9, .int v10, .int v11])), (h1, .inl (cy 0, 64, .inl (upd o_8.2 (16 + i) 1)))]) rfl dX9_hitsLane_44 (fun H locs hP hD hS => ?_)
      refine lv_aload_n hX hB dX9_hitsLane_45 rfl (lv_at hl 1 rfl) ?_
      refine lv_bipush (v := 16) hX hB dX9_hitsLane_46 (by decide) ?_
      refine lv_iconst (v := 4) hX hB dX9_hitsLane_48 (by decide) ?_
      refine z_callVi (isC := [0, 1]) (isR := []) (isO := [0, 1]) (n_X9_isFullL (upd o_8.2 (16 + i) 1)) (q_X9_isFullL cy h0 h1 h2 h3 h4 h5 h6 h7 h8 h9 v1 v2 v3 v4 v5 v6 v7 v8 v9 v10 v11) (fun o_9 => [(h0, .inr (11, [.ref h1, .ref h2, .ref h3, .ref h4, .ref h5, .int v1, .int v2, .int v3, .int v4, .int v5, .ref h6, .int v6, .ref h7, .ref h8, .ref h9, .int v7, .int v8, .int v9, .int v10, .int v11])), (h1, .inl (cy 0, 64, .inl (o_9.2)))]) (fun o_9 => o_9.1) (c_X9_isFullL l hE D cy h0 h1 h2 h3 h4 h5 h6 h7 h8 h9 v1 v2 v3 v4 v5 v6 v7 v8 v9 v10 v11 (upd o_8.2 (16 + i) 1) ) hE C zs_X9_123 ⟨Nat.le_of_ble_eq_true rfl, Nat.le_of_ble_eq_true rfl⟩ hP hD hS hA hE0 ⟨rfl, rfl, rfl, by decide, rfl, rfl, rfl⟩ 0 rfl rfl rfl rfl hl.1 (Nat.le_of_ble_eq_true rfl) rfl dX9_hitsLane_49 ⟨Nat.le_of_ble_eq_true rfl, Nat.le_of_ble_eq_true rfl⟩ (fun o_9 H locs eo_9 hP hD hS => ?_)
      refine lv_if_eq (tgt := 80) hX hB dX9_hitsLane_52 (by decide) (fun c_10 => ?_) (fun c_10 => ?_)
      · refine lv_iload_n hX hB dX9_hitsLane_80 rfl (lv_at hl 0 rfl) ?_
        exact z_iret' (o_8.1, o_9.2) (w' := q_X9_hitsLane cy h0 h1 h2 h3 h4 h5 h6 h7 h8 h9 v1 v2 v3 v4 v5 v6 v7 v8 v9 v10 v11) (r0 := (fun (o : Int32 × (Nat → Int32)) => o.1)) (by simp only [n_X9_hitsLane, ← eo_1, if_neg c_2, if_pos c_3, ← eo_8, ← eo_9, if_pos c_10]) C hRT hP hD hS (Nat.le_of_ble_eq_true rfl) (Nat.le_of_ble_eq_true rfl) rfl rfl dX9_hitsLane_81
      · refine lv_aload_n hX hB dX9_hitsLane_55 rfl (lv_at hl 1 rfl) ?_
        refine fg_X9_7 C hP 0 rfl rfl dX9_hitsLane_56 ?_
        refine lv_iconst (v := 5) hX hB dX9_hitsLane_59 (by decide) ?_
        refine lv_dup2_11 hX hB dX9_hitsLane_60 rfl rfl ?_
        refine z_iald C hP 1 rfl (k := 5) (zlit 5) (by decide) (by decide) (v := g 5) ((show o_9.2 5 = (upd o_8.2 (16 + i) 1) 5 by rw [eo_9]; exact k_X9_isFullL (upd o_8.2 (16 + i) 1) 5 (by omega)).trans ((pk_un (by omega)).trans ((show o_8.2 5 = o_1.2 5 by rw [eo_8]; exact k_X9_scores o_1.2 0 10 5 (by omega)).trans (show o_1.2 5 = g 5 by rw [eo_1]; exact k_X9_counts g 5 (by omega))))) dX9_hitsLane_61 ?_
        refine lv_aload_n hX hB dX9_hitsLane_62 rfl (lv_at hl 1 rfl) ?_
        refine fg_X9_7 C hP 0 rfl rfl dX9_hitsLane_63 ?_
        refine lv_iconst (v := 5) hX hB dX9_hitsLane_66 (by decide) ?_
        refine z_iald C hP 1 rfl (k := 5) (zlit 5) (by decide) (by decide) (v := g 5) ((show o_9.2 5 = (upd o_8.2 (16 + i) 1) 5 by rw [eo_9]; exact k_X9_isFullL (upd o_8.2 (16 + i) 1) 5 (by omega)).trans ((pk_un (by omega)).trans ((show o_8.2 5 = o_1.2 5 by rw [eo_8]; exact k_X9_scores o_1.2 0 10 5 (by omega)).trans (show o_1.2 5 = g 5 by rw [eo_1]; exact k_X9_counts g 5 (by omega))))) dX9_hitsLane_67 ?_
        refine lv_bipush (v := 6) hX hB dX9_hitsLane_68 (by decide) ?_
        refine lv_icmp_ge (tgt := 77) hX hB dX9_hitsLane_70 (by decide) (fun c_11 => ?_) (fun c_11 => ?_)
        · refine lv_iconst (v := 0) hX hB dX9_hitsLane_77 (by decide) ?_
          refine z_iadd (v := (g 5) + 0) C dX9_hitsLane_78 rfl ?_
          refine z_iast C hP hD hS 1 rfl (k := 5) (zlit 5) (by decide) (by decide) (w' := [(h0, .inr (11, [.ref h1, .ref h2, .ref h3, .ref h4, .ref h5, .int v1, .int v2, .int v3, .int v4, .int v5, .ref h6, .int v6, .ref h7, .ref h8, .ref h9, .int v7, .int v8, .int v9, .int v10, .int v11])), (h1, .inl (cy 0, 64, .inl (upd o_9.2 5 ((g 5) + 0))))]) rfl dX9_hitsLane_79 (fun H locs hP hD hS => ?_)
          refine lv_iload_n hX hB dX9_hitsLane_80 rfl (lv_at hl 0 rfl) ?_
          exact z_iret' (o_8.1, upd o_9.2 5 ((g 5) + 0)) (w' := q_X9_hitsLane cy h0 h1 h2 h3 h4 h5 h6 h7 h8 h9 v1 v2 v3 v4 v5 v6 v7 v8 v9 v10 v11) (r0 := (fun (o : Int32 × (Nat → Int32)) => o.1)) (by simp only [n_X9_hitsLane, ← eo_1, if_neg c_2, if_pos c_3, ← eo_8, ← eo_9, if_neg c_10, if_pos c_11]) C hRT hP hD hS (Nat.le_of_ble_eq_true rfl) (Nat.le_of_ble_eq_true rfl) rfl rfl dX9_hitsLane_81
        · refine lv_iconst (v := 1) hX hB dX9_hitsLane_73 (by decide) ?_
          refine lv_goto (tgt := 78) hX hB dX9_hitsLane_74 (by decide) ?_
          refine z_iadd (v := (g 5) + 1) C dX9_hitsLane_78 rfl ?_
          refine z_iast C hP hD hS 1 rfl (k := 5) (zlit 5) (by decide) (by decide) (w' := [(h0, .inr (11, [.ref h1, .ref h2, .ref h3, .ref h4, .ref h5, .int v1, .int v2, .int v3, .int v4, .int v5, .ref h6, .int v6, .ref h7, .ref h8, .ref h9, .int v7, .int v8, .int v9, .int v10, .int v11])), (h1, .inl (cy 0, 64, .inl (upd o_9.2 5 ((g 5) + 1))))]) rfl dX9_hitsLane_79 (fun H locs hP hD hS => ?_)
          refine lv_iload_n hX hB dX9_hitsLane_80 rfl (lv_at hl 0 rfl) ?_
          exact z_iret' (o_8.1, upd o_9.2 5 ((g 5) + 1)) (w' := q_X9_hitsLane cy h0 h1 h2 h3 h4 h5 h6 h7 h8 h9 v1 v2 v3 v4 v5 v6 v7 v8 v9 v10 v11) (r0 := (fun (o : Int32 × (Nat → Int32)) => o.1)) (by simp only [n_X9_hitsLane, ← eo_1, if_neg c_2, if_pos c_3, ← eo_8, ← eo_9, if_neg c_10, if_neg c_11]) C hRT hP hD hS (Nat.le_of_ble_eq_true rfl) (Nat.le_of_ble_eq_true rfl) rfl rfl dX9_hitsLane_81
  · refine lv_iconst (v := 0) hX hB dX9_hitsLane_7 (by decide) ?_
    exact z_iret' (0, o_1.2) (w' := q_X9_hitsLane cy h0 h1 h2 h3 h4 h5 h6 h7 h8 h9 v1 v2 v3 v4 v5 v6 v7 v8 v9 v10 v11) (r0 := (fun (o : Int32 × (Nat → Int32)) => o.1)) (by simp only [n_X9_hitsLane, ← eo_1, if_pos c_2]) C hRT hP hD hS (Nat.le_of_ble_eq_true rfl) (Nat.le_of_ble_eq_true rfl) rfl rfl dX9_hitsLane_8

def n_X9_hitsBumper (g : Nat → Int32) (i : Nat) : Int32 × (Nat → Int32) :=
  let o_1 := n_X9_counts g
  if o_1.1 = 0 then
    (0, o_1.2)
  else
    let o_3 := n_X9_scores o_1.2 1 (g (20 + i))
    if 200 ≤ g (20 + i) then
      (o_3.1, upd o_3.2 (20 + i) ((g (20 + i)) + 0))
    else
      (o_3.1, upd o_3.2 (20 + i) ((g (20 + i)) + 10))
def q_X9_hitsBumper (cy : Nat → ClassId) (h0 : Nat) (h1 : Nat) (h2 : Nat) (h3 : Nat) (h4 : Nat) (h5 : Nat) (h6 : Nat) (h7 : Nat) (h8 : Nat) (h9 : Nat) (v1 : Int32) (v2 : Int32) (v3 : Int32) (v4 : Int32) (v5 : Int32) (v6 : Int32) (v7 : Int32) (v8 : Int32) (v9 : Int32) (v10 : Int32) (v11 : Int32) (o : Int32 × (Nat → Int32)) : va_W := [(h0, .inr (11, [.ref h1, .ref h2, .ref h3, .ref h4, .ref h5, .int v1, .int v2, .int v3, .int v4, .int v5, .ref h6, .int v6, .ref h7, .ref h8, .ref h9, .int v7, .int v8, .int v9, .int v10, .int v11])), (h1, .inl (cy 0, 64, .inl (o.2)))]
theorem k_X9_hitsBumper (g : Nat → Int32) (i : Nat)  (j : Nat) (hj : j ≠ 8 ∧ j ≠ 10 ∧ j < 20) : (n_X9_hitsBumper g i).2 j = g j := by
  simp only [n_X9_hitsBumper]
  repeat (any_goals split)
  all_goals (try simp (disch := omega) only [pk_un, k_X9_counts, k_X9_scores])
set_option maxHeartbeats 4000000 in
set_option maxRecDepth 100000 in
theorem c_X9_hitsBumper (l : Launch) {E : zEn} (hE : zEok E) (D : zG) (cy : Nat → ClassId) (h0 h1 h2 h3 h4 h5 h6 h7 h8 h9 : Nat) (v1 : Int32) (v2 : Int32) (v3 : Int32) (v4 : Int32) (v5 : Int32) (v6 : Int32) (v7 : Int32) (v8 : Int32) (v9 : Int32) (v10 : Int32) (v11 : Int32) (g : Nat → Int32) (x : Int32) (i : Nat) (hx : zi x i) (hxb : i ≤ 2) (hc : zle (g 3) 3) (sz : Nat) : Met l yX9_hitsBumper (zws yX9_hitsBumper cX9_hitsBumper 3 (some .int)) { frames := 2, cells := 0, slots := 0, locals := 45 } (zPre E D cy [.ref h0, .int x] [(h0, .inr (11, [.ref h1, .ref h2, .ref h3, .ref h4, .ref h5, .int v1, .int v2, .int v3, .int v4, .int v5, .ref h6, .int v6, .ref h7, .ref h8, .ref h9, .int v7, .int v8, .int v9, .int v10, .int v11])), (h1, .inl (cy 0, 64, .inl (g)))] sz) (zQi D ((q_X9_hitsBumper cy h0 h1 h2 h3 h4 h5 h6 h7 h8 h9 v1 v2 v3 v4 v5 v6 v7 v8 v9 v10 v11) (n_X9_hitsBumper g i)) (va_A [(h0, .inr (11, [.ref h1, .ref h2, .ref h3, .ref h4, .ref h5, .int v1, .int v2, .int v3, .int v4, .int v5, .ref h6, .int v6, .ref h7, .ref h8, .ref h9, .int v7, .int v8, .int v9, .int v10, .int v11])), (h1, .inl (cy 0, 64, .inl (g)))] sz) ((n_X9_hitsBumper g i).1)) 0 0 (va_A [(h0, .inr (11, [.ref h1, .ref h2, .ref h3, .ref h4, .ref h5, .int v1, .int v2, .int v3, .int v4, .int v5, .ref h6, .int v6, .ref h7, .ref h8, .ref h9, .int v7, .int v8, .int v9, .int v10, .int v11])), (h1, .inl (cy 0, 64, .inl (g)))] sz) := by
  refine z_of (Qc := fun A => zQi D ((q_X9_hitsBumper cy h0 h1 h2 h3 h4 h5 h6 h7 h8 h9 v1 v2 v3 v4 v5 v6 v7 v8 v9 v10 v11) (n_X9_hitsBumper g i)) A ((n_X9_hitsBumper g i).1)) (by decide +kernel) (Nat.le_of_ble_eq_true rfl) rfl ?_
  intro pG eN sT mI below meth cO A ls C hRT hnm hA hP hD hS hE0 hl
  have hX := C.x
  have hB := C.b
  have hc_ := hc.2
  refine lv_aload_n hX hB dX9_hitsBumper_0 rfl (lv_at hl 0 rfl) ?_
  refine z_callVi (isC := [0, 1]) (isR := []) (isO := [0, 1]) (n_X9_counts g) (q_X9_counts cy h0 h1 h2 h3 h4 h5 h6 h7 h8 h9 v1 v2 v3 v4 v5 v6 v7 v8 v9 v10 v11) (fun o_1 => [(h0, .inr (11, [.ref h1, .ref h2, .ref h3, .ref h4, .ref h5, .int v1, .int v2, .int v3, .int v4, .int v5, .ref h6, .int v6, .ref h7, .ref h8, .ref h9, .int v7, .int v8, .int v9, .int v10, .int v11])), (h1, .inl (cy 0, 64, .inl (o_1.2)))]) (fun o_1 => o_1.1) (c_X9_counts l hE D cy h0 h1 h2 h3 h4 h5 h6 h7 h8 h9 v1 v2 v3 v4 v5 v6 v7 v8 v9 v10 v11 g ) hE C zs_X9_116 ⟨Nat.le_of_ble_eq_true rfl, Nat.le_of_ble_eq_true rfl⟩ hP hD hS hA hE0 ⟨rfl, rfl, rfl, by decide, rfl, rfl, rfl⟩ 0 rfl rfl rfl rfl hl.1 (Nat.le_of_ble_eq_true rfl) rfl dX9_hitsBumper_1 ⟨Nat.le_of_ble_eq_true rfl, Nat.le_of_ble_eq_true rfl⟩ (fun o_1 H locs eo_1 hP hD hS => ?_)
  refine lv_if_ne (tgt := 9) hX hB dX9_hitsBumper_4 (by decide) (fun c_2 => ?_) (fun c_2 => ?_)
  · refine lv_aload_n hX hB dX9_hitsBumper_9 rfl (lv_at hl 0 rfl) ?_
    refine lv_iconst (v := 1) hX hB dX9_hitsBumper_10 (by decide) ?_
    refine lv_aload_n hX hB dX9_hitsBumper_11 rfl (lv_at hl 0 rfl) ?_
    refine fg_X9_7 C hP 0 rfl rfl dX9_hitsBumper_12 ?_
    refine lv_bipush (v := 20) hX hB dX9_hitsBumper_15 (by decide) ?_
    refine lv_iload_n hX hB dX9_hitsBumper_17 rfl (lv_at hl 1 rfl) ?_
    refine z_iadd (v := nI (20 + i)) C dX9_hitsBumper_18 (zi_add (zlit 20) hx) ?_
    refine z_iald C hP 1 rfl (k := 20 + i) (zi_i (20 + i)) (by omega) (by decide) (v := g (20 + i)) (show o_1.2 (20 + i) = g (20 + i) by rw [eo_1]; exact k_X9_counts g (20 + i) (by omega)) dX9_hitsBumper_19 ?_
    refine z_callVi (isC := [0, 1]) (isR := []) (isO := [0, 1]) (n_X9_scores o_1.2 1 (g (20 + i))) (q_X9_scores cy h0 h1 h2 h3 h4 h5 h6 h7 h8 h9 v1 v2 v3 v4 v5 v6 v7 v8 v9 v10 v11) (fun o_3 => [(h0, .inr (11, [.ref h1, .ref h2, .ref h3, .ref h4, .ref h5, .int v1, .int v2, .int v3, .int v4, .int v5, .ref h6, .int v6, .ref h7, .ref h8, .ref h9, .int v7, .int v8, .int v9, .int v10, .int v11])), (h1, .inl (cy 0, 64, .inl (o_3.2)))]) (fun o_3 => o_3.1) (c_X9_scores l hE D cy h0 h1 h2 h3 h4 h5 h6 h7 h8 h9 v1 v2 v3 v4 v5 v6 v7 v8 v9 v10 v11 o_1.2 1 1 (g (20 + i)) (zlit 1) (by omega) (zle_of (zi_tr (show o_1.2 3 = g 3 by rw [eo_1]; exact k_X9_counts g 3 (by omega)) hc.1) (by omega) (by decide))) hE C zs_X9_119 ⟨Nat.le_of_ble_eq_true rfl, Nat.le_of_ble_eq_true rfl⟩ hP hD hS hA hE0 ⟨rfl, rfl, rfl, by decide, rfl, rfl, rfl⟩ 0 rfl rfl rfl rfl hl.1 (Nat.le_of_ble_eq_true rfl) rfl dX9_hitsBumper_20 ⟨Nat.le_of_ble_eq_true rfl, Nat.le_of_ble_eq_true rfl⟩ (fun o_3 H locs eo_3 hP hD hS => ?_)
    refine lv_istore_n (lv' := [(2, .int o_3.1), (0, .ref h0), (1, .int x)]) hX hB dX9_hitsBumper_23 rfl hl (by decide) rfl (fun ls hl => ?_)
    refine lv_aload_n hX hB dX9_hitsBumper_24 rfl (lv_at hl 1 rfl) ?_
    refine fg_X9_7 C hP 0 rfl rfl dX9_hitsBumper_25 ?_
    refine lv_bipush (v := 20) hX hB dX9_hitsBumper_28 (by decide) ?_
    refine lv_iload_n hX hB dX9_hitsBumper_30 rfl (lv_at hl 2 rfl) ?_
    refine z_iadd (v := nI (20 + i)) C dX9_hitsBumper_31 (zi_add (zlit 20) hx) ?_
    refine lv_dup2_11 hX hB dX9_hitsBumper_32 rfl rfl ?_
    refine z_iald C hP 1 rfl (k := 20 + i) (zi_i (20 + i)) (by omega) (by decide) (v := g (20 + i)) ((show o_3.2 (20 + i) = o_1.2 (20 + i) by rw [eo_3]; exact k_X9_scores o_1.2 1 (g (20 + i)) (20 + i) (by omega)).trans (show o_1.2 (20 + i) = g (20 + i) by rw [eo_1]; exact k_X9_counts g (20 + i) (by omega))) dX9_hitsBumper_33 ?_
    refine lv_aload_n hX hB dX9_hitsBumper_34 rfl (lv_at hl 1 rfl) ?_
    refine fg_X9_7 C hP 0 rfl rfl dX9_hitsBumper_35 ?_
    refine lv_bipush (v := 20) hX hB dX9_hitsBumper_38 (by decide) ?_
    refine lv_iload_n hX hB dX9_hitsBumper_40 rfl (lv_at hl 2 rfl) ?_
    refine z_iadd (v := nI (20 + i)) C dX9_hitsBumper_41 (zi_add (zlit 20) hx) ?_
    refine z_iald C hP 1 rfl (k := 20 + i) (zi_i (20 + i)) (by omega) (by decide) (v := g (20 + i)) ((show o_3.2 (20 + i) = o_1.2 (20 + i) by rw [eo_3]; exact k_X9_scores o_1.2 1 (g (20 + i)) (20 + i) (by omega)).trans (show o_1.2 (20 + i) = g (20 + i) by rw [eo_1]; exact k_X9_counts g (20 + i) (by omega))) dX9_hitsBumper_42 ?_
    refine lv_sipush (v := 200) hX hB dX9_hitsBumper_43 (by decide) ?_
    refine lv_icmp_ge (tgt := 54) hX hB dX9_hitsBumper_46 (by decide) (fun c_4 => ?_) (fun c_4 => ?_)
    · refine lv_iconst (v := 0) hX hB dX9_hitsBumper_54 (by decide) ?_
      refine z_iadd (v := (g (20 + i)) + 0) C dX9_hitsBumper_55 rfl ?_
      refine z_iast C hP hD hS 1 rfl (k := 20 + i) (zi_i (20 + i)) (by omega) (by decide) (w' := [(h0, .inr (11, [.ref h1, .ref h2, .ref h3, .ref h4, .ref h5, .int v1, .int v2, .int v3, .int v4, .int v5, .ref h6, .int v6, .ref h7, .ref h8, .ref h9, .int v7, .int v8, .int v9, .int v10, .int v11])), (h1, .inl (cy 0, 64, .inl (upd o_3.2 (20 + i) ((g (20 + i)) + 0))))]) rfl dX9_hitsBumper_56 (fun H locs hP hD hS => ?_)
      refine lv_iload_n hX hB dX9_hitsBumper_57 rfl (lv_at hl 0 rfl) ?_
      exact z_iret' (o_3.1, upd o_3.2 (20 + i) ((g (20 + i)) + 0)) (w' := q_X9_hitsBumper cy h0 h1 h2 h3 h4 h5 h6 h7 h8 h9 v1 v2 v3 v4 v5 v6 v7 v8 v9 v10 v11) (r0 := (fun (o : Int32 × (Nat → Int32)) => o.1)) (by simp only [n_X9_hitsBumper, ← eo_1, if_neg c_2, ← eo_3, if_pos c_4]) C hRT hP hD hS (Nat.le_of_ble_eq_true rfl) (Nat.le_of_ble_eq_true rfl) rfl rfl dX9_hitsBumper_58
    · refine lv_bipush (v := 10) hX hB dX9_hitsBumper_49 (by decide) ?_
      refine lv_goto (tgt := 55) hX hB dX9_hitsBumper_51 (by decide) ?_
      refine z_iadd (v := (g (20 + i)) + 10) C dX9_hitsBumper_55 rfl ?_
      refine z_iast C hP hD hS 1 rfl (k := 20 + i) (zi_i (20 + i)) (by omega) (by decide) (w' := [(h0, .inr (11, [.ref h1, .ref h2, .ref h3, .ref h4, .ref h5, .int v1, .int v2, .int v3, .int v4, .int v5, .ref h6, .int v6, .ref h7, .ref h8, .ref h9, .int v7, .int v8, .int v9, .int v10, .int v11])), (h1, .inl (cy 0, 64, .inl (upd o_3.2 (20 + i) ((g (20 + i)) + 10))))]) rfl dX9_hitsBumper_56 (fun H locs hP hD hS => ?_)
      refine lv_iload_n hX hB dX9_hitsBumper_57 rfl (lv_at hl 0 rfl) ?_
      exact z_iret' (o_3.1, upd o_3.2 (20 + i) ((g (20 + i)) + 10)) (w' := q_X9_hitsBumper cy h0 h1 h2 h3 h4 h5 h6 h7 h8 h9 v1 v2 v3 v4 v5 v6 v7 v8 v9 v10 v11) (r0 := (fun (o : Int32 × (Nat → Int32)) => o.1)) (by simp only [n_X9_hitsBumper, ← eo_1, if_neg c_2, ← eo_3, if_neg c_4]) C hRT hP hD hS (Nat.le_of_ble_eq_true rfl) (Nat.le_of_ble_eq_true rfl) rfl rfl dX9_hitsBumper_58
  · refine lv_iconst (v := 0) hX hB dX9_hitsBumper_7 (by decide) ?_
    exact z_iret' (0, o_1.2) (w' := q_X9_hitsBumper cy h0 h1 h2 h3 h4 h5 h6 h7 h8 h9 v1 v2 v3 v4 v5 v6 v7 v8 v9 v10 v11) (r0 := (fun (o : Int32 × (Nat → Int32)) => o.1)) (by simp only [n_X9_hitsBumper, ← eo_1, if_pos c_2]) C hRT hP hD hS (Nat.le_of_ble_eq_true rfl) (Nat.le_of_ble_eq_true rfl) rfl rfl dX9_hitsBumper_8

def n_X9_hitsTarget (g : Nat → Int32) (i : Nat) : Int32 × (Nat → Int32) :=
  let o_1 := n_X9_counts g
  if o_1.1 = 0 then
    (0, o_1.2)
  else
    if g (24 + i) = 1 then
      let o_9 := n_X9_scores o_1.2 2 20
      (o_9.1, o_9.2)
    else
      let o_4 := n_X9_scores o_1.2 2 200
      let o_5 := n_X9_isFullT (upd (upd o_4.2 7 ((g 7) + 1)) (24 + i) 1)
      if o_5.1 = 0 then
        (o_4.1, o_5.2)
      else
        if (g 6) + 1 = 2 then
          let o_8 := n_X9_givesExtra (upd (upd o_5.2 7 (((g 7) + 1) + 3)) 6 ((g 6) + 1)) (zn (g 3))
          (o_4.1, o_8)
        else
          (o_4.1, upd (upd o_5.2 7 (((g 7) + 1) + 3)) 6 ((g 6) + 1))
def q_X9_hitsTarget (cy : Nat → ClassId) (h0 : Nat) (h1 : Nat) (h2 : Nat) (h3 : Nat) (h4 : Nat) (h5 : Nat) (h6 : Nat) (h7 : Nat) (h8 : Nat) (h9 : Nat) (v1 : Int32) (v2 : Int32) (v3 : Int32) (v4 : Int32) (v5 : Int32) (v6 : Int32) (v7 : Int32) (v8 : Int32) (v9 : Int32) (v10 : Int32) (v11 : Int32) (o : Int32 × (Nat → Int32)) : va_W := [(h0, .inr (11, [.ref h1, .ref h2, .ref h3, .ref h4, .ref h5, .int v1, .int v2, .int v3, .int v4, .int v5, .ref h6, .int v6, .ref h7, .ref h8, .ref h9, .int v7, .int v8, .int v9, .int v10, .int v11])), (h1, .inl (cy 0, 64, .inl (o.2)))]
theorem k_X9_hitsTarget (g : Nat → Int32) (i : Nat)  (j : Nat) (hj : ¬ (6 ≤ j ∧ j ≤ 8) ∧ j ≠ 10 ∧ j < 24) : (n_X9_hitsTarget g i).2 j = g j := by
  simp only [n_X9_hitsTarget]
  repeat (any_goals split)
  all_goals (try simp (disch := omega) only [pk_un, k_X9_counts, k_X9_givesExtra, k_X9_isFullT, k_X9_scores])
set_option maxHeartbeats 4000000 in
set_option maxRecDepth 100000 in
theorem c_X9_hitsTarget (l : Launch) {E : zEn} (hE : zEok E) (D : zG) (cy : Nat → ClassId) (h0 h1 h2 h3 h4 h5 h6 h7 h8 h9 : Nat) (v1 : Int32) (v2 : Int32) (v3 : Int32) (v4 : Int32) (v5 : Int32) (v6 : Int32) (v7 : Int32) (v8 : Int32) (v9 : Int32) (v10 : Int32) (v11 : Int32) (g : Nat → Int32) (x : Int32) (i : Nat) (hx : zi x i) (hxb : i ≤ 4) (hc : zle (g 3) 3) (sz : Nat) : Met l yX9_hitsTarget (zws yX9_hitsTarget cX9_hitsTarget 3 (some .int)) { frames := 2, cells := 0, slots := 0, locals := 45 } (zPre E D cy [.ref h0, .int x] [(h0, .inr (11, [.ref h1, .ref h2, .ref h3, .ref h4, .ref h5, .int v1, .int v2, .int v3, .int v4, .int v5, .ref h6, .int v6, .ref h7, .ref h8, .ref h9, .int v7, .int v8, .int v9, .int v10, .int v11])), (h1, .inl (cy 0, 64, .inl (g)))] sz) (zQi D ((q_X9_hitsTarget cy h0 h1 h2 h3 h4 h5 h6 h7 h8 h9 v1 v2 v3 v4 v5 v6 v7 v8 v9 v10 v11) (n_X9_hitsTarget g i)) (va_A [(h0, .inr (11, [.ref h1, .ref h2, .ref h3, .ref h4, .ref h5, .int v1, .int v2, .int v3, .int v4, .int v5, .ref h6, .int v6, .ref h7, .ref h8, .ref h9, .int v7, .int v8, .int v9, .int v10, .int v11])), (h1, .inl (cy 0, 64, .inl (g)))] sz) ((n_X9_hitsTarget g i).1)) 0 0 (va_A [(h0, .inr (11, [.ref h1, .ref h2, .ref h3, .ref h4, .ref h5, .int v1, .int v2, .int v3, .int v4, .int v5, .ref h6, .int v6, .ref h7, .ref h8, .ref h9, .int v7, .int v8, .int v9, .int v10, .int v11])), (h1, .inl (cy 0, 64, .inl (g)))] sz) := by
  refine z_of (Qc := fun A => zQi D ((q_X9_hitsTarget cy h0 h1 h2 h3 h4 h5 h6 h7 h8 h9 v1 v2 v3 v4 v5 v6 v7 v8 v9 v10 v11) (n_X9_hitsTarget g i)) A ((n_X9_hitsTarget g i).1)) (by decide +kernel) (Nat.le_of_ble_eq_true rfl) rfl ?_
  intro pG eN sT mI below meth cO A ls C hRT hnm hA hP hD hS hE0 hl
  have hX := C.x
  have hB := C.b
  have hc_ := hc.2
  refine lv_aload_n hX hB dX9_hitsTarget_0 rfl (lv_at hl 0 rfl) ?_
  refine z_callVi (isC := [0, 1]) (isR := []) (isO := [0, 1]) (n_X9_counts g) (q_X9_counts cy h0 h1 h2 h3 h4 h5 h6 h7 h8 h9 v1 v2 v3 v4 v5 v6 v7 v8 v9 v10 v11) (fun o_1 => [(h0, .inr (11, [.ref h1, .ref h2, .ref h3, .ref h4, .ref h5, .int v1, .int v2, .int v3, .int v4, .int v5, .ref h6, .int v6, .ref h7, .ref h8, .ref h9, .int v7, .int v8, .int v9, .int v10, .int v11])), (h1, .inl (cy 0, 64, .inl (o_1.2)))]) (fun o_1 => o_1.1) (c_X9_counts l hE D cy h0 h1 h2 h3 h4 h5 h6 h7 h8 h9 v1 v2 v3 v4 v5 v6 v7 v8 v9 v10 v11 g ) hE C zs_X9_116 ⟨Nat.le_of_ble_eq_true rfl, Nat.le_of_ble_eq_true rfl⟩ hP hD hS hA hE0 ⟨rfl, rfl, rfl, by decide, rfl, rfl, rfl⟩ 0 rfl rfl rfl rfl hl.1 (Nat.le_of_ble_eq_true rfl) rfl dX9_hitsTarget_1 ⟨Nat.le_of_ble_eq_true rfl, Nat.le_of_ble_eq_true rfl⟩ (fun o_1 H locs eo_1 hP hD hS => ?_)
  refine lv_if_ne (tgt := 9) hX hB dX9_hitsTarget_4 (by decide) (fun c_2 => ?_) (fun c_2 => ?_)
  · refine lv_aload_n hX hB dX9_hitsTarget_9 rfl (lv_at hl 0 rfl) ?_
    refine fg_X9_7 C hP 0 rfl rfl dX9_hitsTarget_10 ?_
    refine lv_bipush (v := 24) hX hB dX9_hitsTarget_13 (by decide) ?_
    refine lv_iload_n hX hB dX9_hitsTarget_15 rfl (lv_at hl 1 rfl) ?_
    refine z_iadd (v := nI (24 + i)) C dX9_hitsTarget_16 (zi_add (zlit 24) hx) ?_
    refine z_iald C hP 1 rfl (k := 24 + i) (zi_i (24 + i)) (by omega) (by decide) (v := g (24 + i)) (show o_1.2 (24 + i) = g (24 + i) by rw [eo_1]; exact k_X9_counts g (24 + i) (by omega)) dX9_hitsTarget_17 ?_
    refine lv_iconst (v := 1) hX hB dX9_hitsTarget_18 (by decide) ?_
    refine lv_icmp_ne (tgt := 30) hX hB dX9_hitsTarget_19 (by decide) (fun c_3 => ?_) (fun c_3 => ?_)
    · refine lv_aload_n hX hB dX9_hitsTarget_30 rfl (lv_at hl 0 rfl) ?_
      refine lv_iconst (v := 2) hX hB dX9_hitsTarget_31 (by decide) ?_
      refine lv_sipush (v := 200) hX hB dX9_hitsTarget_32 (by decide) ?_
      refine z_callVi (isC := [0, 1]) (isR := []) (isO := [0, 1]) (n_X9_scores o_1.2 2 200) (q_X9_scores cy h0 h1 h2 h3 h4 h5 h6 h7 h8 h9 v1 v2 v3 v4 v5 v6 v7 v8 v9 v10 v11) (fun o_4 => [(h0, .inr (11, [.ref h1, .ref h2, .ref h3, .ref h4, .ref h5, .int v1, .int v2, .int v3, .int v4, .int v5, .ref h6, .int v6, .ref h7, .ref h8, .ref h9, .int v7, .int v8, .int v9, .int v10, .int v11])), (h1, .inl (cy 0, 64, .inl (o_4.2)))]) (fun o_4 => o_4.1) (c_X9_scores l hE D cy h0 h1 h2 h3 h4 h5 h6 h7 h8 h9 v1 v2 v3 v4 v5 v6 v7 v8 v9 v10 v11 o_1.2 2 2 200 (zlit 2) (by omega) (zle_of (zi_tr (show o_1.2 3 = g 3 by rw [eo_1]; exact k_X9_counts g 3 (by omega)) hc.1) (by omega) (by decide))) hE C zs_X9_119 ⟨Nat.le_of_ble_eq_true rfl, Nat.le_of_ble_eq_true rfl⟩ hP hD hS hA hE0 ⟨rfl, rfl, rfl, by decide, rfl, rfl, rfl⟩ 0 rfl rfl rfl rfl hl.1 (Nat.le_of_ble_eq_true rfl) rfl dX9_hitsTarget_35 ⟨Nat.le_of_ble_eq_true rfl, Nat.le_of_ble_eq_true rfl⟩ (fun o_4 H locs eo_4 hP hD hS => ?_)
      refine lv_istore_n (lv' := [(2, .int o_4.1), (0, .ref h0), (1, .int x)]) hX hB dX9_hitsTarget_38 rfl hl (by decide) rfl (fun ls hl => ?_)
      refine lv_aload_n hX hB dX9_hitsTarget_39 rfl (lv_at hl 1 rfl) ?_
      refine fg_X9_7 C hP 0 rfl rfl dX9_hitsTarget_40 ?_
      refine lv_bipush (v := 7) hX hB dX9_hitsTarget_43 (by decide) ?_
      refine lv_dup2_11 hX hB dX9_hitsTarget_45 rfl rfl ?_
      refine z_iald C hP 1 rfl (k := 7) (zlit 7) (by decide) (by decide) (v := g 7) ((show o_4.2 7 = o_1.2 7 by rw [eo_4]; exact k_X9_scores o_1.2 2 200 7 (by omega)).trans (show o_1.2 7 = g 7 by rw [eo_1]; exact k_X9_counts g 7 (by omega))) dX9_hitsTarget_46 ?_
      refine lv_iconst (v := 1) hX hB dX9_hitsTarget_47 (by decide) ?_
      refine z_iadd (v := (g 7) + 1) C dX9_hitsTarget_48 rfl ?_
      refine z_iast C hP hD hS 1 rfl (k := 7) (zlit 7) (by decide) (by decide) (w' := [(h0, .inr (11, [.ref h1, .ref h2, .ref h3, .ref h4, .ref h5, .int v1, .int v2, .int v3, .int v4, .int v5, .ref h6, .int v6, .ref h7, .ref h8, .ref h9, .int v7, .int v8, .int v9, .int v10, .int v11])), (h1, .inl (cy 0, 64, .inl (upd o_4.2 7 ((g 7) + 1))))]) rfl dX9_hitsTarget_49 (fun H locs hP hD hS => ?_)
      refine lv_aload_n hX hB dX9_hitsTarget_50 rfl (lv_at hl 1 rfl) ?_
      refine fg_X9_7 C hP 0 rfl rfl dX9_hitsTarget_51 ?_
      refine lv_bipush (v := 24) hX hB dX9_hitsTarget_54 (by decide) ?_
      refine lv_iload_n hX hB dX9_hitsTarget_56 rfl (lv_at hl 2 rfl) ?_
      refine z_iadd (v := nI (24 + i)) C dX9_hitsTarget_57 (zi_add (zlit 24) hx) ?_
      refine lv_iconst (v := 1) hX hB dX9_hitsTarget_58 (by decide) ?_
      refine z_iast C hP hD hS 1 rfl (k := 24 + i) (zi_i (24 + i)) (by omega) (by decide) (w' := [(h0, .inr (11, [.ref h1, .ref h2, .ref h3, .ref h4, .ref h5, .int v1, .int v2, .int v3, .int v4, .int v5, .ref h6, .int v6, .ref h7, .ref h8, .ref h9, .int v7, .int v8, .int v9, .int v10, .int v11])), (h1, .inl (cy 0, 64, .inl (upd (upd o_4.2 7 ((g 7) + 1)) (24 + i) 1)))]) rfl dX9_hitsTarget_59 (fun H locs hP hD hS => ?_)
      refine lv_aload_n hX hB dX9_hitsTarget_60 rfl (lv_at hl 1 rfl) ?_
      refine lv_bipush (v := 24) hX hB dX9_hitsTarget_61 (by decide) ?_
      refine lv_iconst (v := 5) hX hB dX9_hitsTarget_63 (by decide) ?_
      refine z_callVi (isC := [0, 1]) (isR := []) (isO := [0, 1]) (n_X9_isFullT (upd (upd o_4.2 7 ((g 7) + 1)) (24 + i) 1)) (q_X9_isFullT cy h0 h1 h2 h3 h4 h5 h6 h7 h8 h9 v1 v2 v3 v4 v5 v6 v7 v8 v9 v10 v11) (fun o_5 => [(h0, .inr (11, [.ref h1, .ref h2, .ref h3, .ref h4, .ref h5, .int v1, .int v2, .int v3, .int v4, .int v5, .ref h6, .int v6, .ref h7, .ref h8, .ref h9, .int v7, .int v8, .int v9, .int v10, .int v11])), (h1, .inl (cy 0, 64, .inl (o_5.2)))]) (fun o_5 => o_5.1) (c_X9_isFullT l hE D cy h0 h1 h2 h3 h4 h5 h6 h7 h8 h9 v1 v2 v3 v4 v5 v6 v7 v8 v9 v10 v11 (upd (upd o_4.2 7 ((g 7) + 1)) (24 + i) 1) ) hE C zs_X9_123 ⟨Nat.le_of_ble_eq_true rfl, Nat.le_of_ble_eq_true rfl⟩ hP hD hS hA hE0 ⟨rfl, rfl, rfl, by decide, rfl, rfl, rfl⟩ 0 rfl rfl rfl rfl hl.1 (Nat.le_of_ble_eq_true rfl) rfl dX9_hitsTarget_64 ⟨Nat.le_of_ble_eq_true rfl, Nat.le_of_ble_eq_true rfl⟩ (fun o_5 H locs eo_5 hP hD hS => ?_)
      refine lv_if_ne (tgt := 72) hX hB dX9_hitsTarget_67 (by decide) (fun c_6 => ?_) (fun c_6 => ?_)
      · refine lv_aload_n hX hB dX9_hitsTarget_72 rfl (lv_at hl 1 rfl) ?_
        refine fg_X9_7 C hP 0 rfl rfl dX9_hitsTarget_73 ?_
        refine lv_bipush (v := 7) hX hB dX9_hitsTarget_76 (by decide) ?_
        refine lv_dup2_11 hX hB dX9_hitsTarget_78 rfl rfl ?_
        refine z_iald C hP 1 rfl (k := 7) (zlit 7) (by decide) (by decide) (v := (g 7) + 1) ((show o_5.2 7 = (upd (upd o_4.2 7 ((g 7) + 1)) (24 + i) 1) 7 by rw [eo_5]; exact k_X9_isFullT (upd (upd o_4.2 7 ((g 7) + 1)) (24 + i) 1) 7 (by omega)).trans ((pk_un (by omega)).trans pk_us)) dX9_hitsTarget_79 ?_
        refine lv_iconst (v := 3) hX hB dX9_hitsTarget_80 (by decide) ?_
        refine z_iadd (v := ((g 7) + 1) + 3) C dX9_hitsTarget_81 rfl ?_
        refine z_iast C hP hD hS 1 rfl (k := 7) (zlit 7) (by decide) (by decide) (w' := [(h0, .inr (11, [.ref h1, .ref h2, .ref h3, .ref h4, .ref h5, .int v1, .int v2, .int v3, .int v4, .int v5, .ref h6, .int v6, .ref h7, .ref h8, .ref h9, .int v7, .int v8, .int v9, .int v10, .int v11])), (h1, .inl (cy 0, 64, .inl (upd o_5.2 7 (((g 7) + 1) + 3))))]) rfl dX9_hitsTarget_82 (fun H locs hP hD hS => ?_)
        refine lv_aload_n hX hB dX9_hitsTarget_83 rfl (lv_at hl 1 rfl) ?_
        refine fg_X9_7 C hP 0 rfl rfl dX9_hitsTarget_84 ?_
        refine lv_bipush (v := 6) hX hB dX9_hitsTarget_87 (by decide) ?_
        refine lv_dup2_11 hX hB dX9_hitsTarget_89 rfl rfl ?_
        refine z_iald C hP 1 rfl (k := 6) (zlit 6) (by decide) (by decide) (v := g 6) ((pk_un (by decide)).trans ((show o_5.2 6 = (upd (upd o_4.2 7 ((g 7) + 1)) (24 + i) 1) 6 by rw [eo_5]; exact k_X9_isFullT (upd (upd o_4.2 7 ((g 7) + 1)) (24 + i) 1) 6 (by omega)).trans ((pk_un (by omega)).trans ((pk_un (by decide)).trans ((show o_4.2 6 = o_1.2 6 by rw [eo_4]; exact k_X9_scores o_1.2 2 200 6 (by omega)).trans (show o_1.2 6 = g 6 by rw [eo_1]; exact k_X9_counts g 6 (by omega))))))) dX9_hitsTarget_90 ?_
        refine lv_iconst (v := 1) hX hB dX9_hitsTarget_91 (by decide) ?_
        refine z_iadd (v := (g 6) + 1) C dX9_hitsTarget_92 rfl ?_
        refine z_iast C hP hD hS 1 rfl (k := 6) (zlit 6) (by decide) (by decide) (w' := [(h0, .inr (11, [.ref h1, .ref h2, .ref h3, .ref h4, .ref h5, .int v1, .int v2, .int v3, .int v4, .int v5, .ref h6, .int v6, .ref h7, .ref h8, .ref h9, .int v7, .int v8, .int v9, .int v10, .int v11])), (h1, .inl (cy 0, 64, .inl (upd (upd o_5.2 7 (((g 7) + 1) + 3)) 6 ((g 6) + 1))))]) rfl dX9_hitsTarget_93 (fun H locs hP hD hS => ?_)
        refine lv_aload_n hX hB dX9_hitsTarget_94 rfl (lv_at hl 1 rfl) ?_
        refine fg_X9_7 C hP 0 rfl rfl dX9_hitsTarget_95 ?_
        refine lv_bipush (v := 6) hX hB dX9_hitsTarget_98 (by decide) ?_
        refine z_iald C hP 1 rfl (k := 6) (zlit 6) (by decide) (by decide) (v := (g 6) + 1) pk_us dX9_hitsTarget_100 ?_
        refine lv_iconst (v := 2) hX hB dX9_hitsTarget_101 (by decide) ?_
        refine lv_icmp_ne (tgt := 115) hX hB dX9_hitsTarget_102 (by decide) (fun c_7 => ?_) (fun c_7 => ?_)
        · refine lv_iload_n hX hB dX9_hitsTarget_115 rfl (lv_at hl 0 rfl) ?_
          exact z_iret' (o_4.1, upd (upd o_5.2 7 (((g 7) + 1) + 3)) 6 ((g 6) + 1)) (w' := q_X9_hitsTarget cy h0 h1 h2 h3 h4 h5 h6 h7 h8 h9 v1 v2 v3 v4 v5 v6 v7 v8 v9 v10 v11) (r0 := (fun (o : Int32 × (Nat → Int32)) => o.1)) (by simp only [n_X9_hitsTarget, ← eo_1, if_neg c_2, if_neg c_3, ← eo_4, ← eo_5, if_neg c_6, if_neg c_7]) C hRT hP hD hS (Nat.le_of_ble_eq_true rfl) (Nat.le_of_ble_eq_true rfl) rfl rfl dX9_hitsTarget_116
        · refine lv_aload_n hX hB dX9_hitsTarget_105 rfl (lv_at hl 1 rfl) ?_
          refine lv_aload_n hX hB dX9_hitsTarget_106 rfl (lv_at hl 1 rfl) ?_
          refine fg_X9_7 C hP 0 rfl rfl dX9_hitsTarget_107 ?_
          refine lv_iconst (v := 3) hX hB dX9_hitsTarget_110 (by decide) ?_
          refine z_iald C hP 1 rfl (k := 3) (zlit 3) (by decide) (by decide) (v := g 3) ((pk_un (by decide)).trans ((pk_un (by decide)).trans ((show o_5.2 3 = (upd (upd o_4.2 7 ((g 7) + 1)) (24 + i) 1) 3 by rw [eo_5]; exact k_X9_isFullT (upd (upd o_4.2 7 ((g 7) + 1)) (24 + i) 1) 3 (by omega)).trans ((pk_un (by omega)).trans ((pk_un (by decide)).trans ((show o_4.2 3 = o_1.2 3 by rw [eo_4]; exact k_X9_scores o_1.2 2 200 3 (by omega)).trans (show o_1.2 3 = g 3 by rw [eo_1]; exact k_X9_counts g 3 (by omega)))))))) dX9_hitsTarget_111 ?_
          refine z_callVv (isC := [0, 1]) (isR := []) (isO := [0, 1]) (n_X9_givesExtra (upd (upd o_5.2 7 (((g 7) + 1) + 3)) 6 ((g 6) + 1)) (zn (g 3))) (q_X9_givesExtra cy h0 h1 h2 h3 h4 h5 h6 h7 h8 h9 v1 v2 v3 v4 v5 v6 v7 v8 v9 v10 v11) (fun o_8 => [(h0, .inr (11, [.ref h1, .ref h2, .ref h3, .ref h4, .ref h5, .int v1, .int v2, .int v3, .int v4, .int v5, .ref h6, .int v6, .ref h7, .ref h8, .ref h9, .int v7, .int v8, .int v9, .int v10, .int v11])), (h1, .inl (cy 0, 64, .inl (o_8)))]) (c_X9_givesExtra l hE D cy h0 h1 h2 h3 h4 h5 h6 h7 h8 h9 v1 v2 v3 v4 v5 v6 v7 v8 v9 v10 v11 (upd (upd o_5.2 7 (((g 7) + 1) + 3)) 6 ((g 6) + 1)) (g 3) (zn (g 3)) hc.1 (by omega)) hE C zs_X9_109 ⟨Nat.le_of_ble_eq_true rfl, Nat.le_of_ble_eq_true rfl⟩ hP hD hS hA hE0 ⟨rfl, rfl, rfl, by decide, rfl, rfl, rfl⟩ 0 rfl rfl rfl rfl hl.1 (Nat.le_of_ble_eq_true rfl) rfl dX9_hitsTarget_112 ⟨Nat.le_of_ble_eq_true rfl, Nat.le_of_ble_eq_true rfl⟩ (fun o_8 H locs eo_8 hP hD hS => ?_)
          refine lv_iload_n hX hB dX9_hitsTarget_115 rfl (lv_at hl 0 rfl) ?_
          exact z_iret' (o_4.1, o_8) (w' := q_X9_hitsTarget cy h0 h1 h2 h3 h4 h5 h6 h7 h8 h9 v1 v2 v3 v4 v5 v6 v7 v8 v9 v10 v11) (r0 := (fun (o : Int32 × (Nat → Int32)) => o.1)) (by simp only [n_X9_hitsTarget, ← eo_1, if_neg c_2, if_neg c_3, ← eo_4, ← eo_5, if_neg c_6, if_pos c_7, ← eo_8]) C hRT hP hD hS (Nat.le_of_ble_eq_true rfl) (Nat.le_of_ble_eq_true rfl) rfl rfl dX9_hitsTarget_116
      · refine lv_iload_n hX hB dX9_hitsTarget_70 rfl (lv_at hl 0 rfl) ?_
        exact z_iret' (o_4.1, o_5.2) (w' := q_X9_hitsTarget cy h0 h1 h2 h3 h4 h5 h6 h7 h8 h9 v1 v2 v3 v4 v5 v6 v7 v8 v9 v10 v11) (r0 := (fun (o : Int32 × (Nat → Int32)) => o.1)) (by simp only [n_X9_hitsTarget, ← eo_1, if_neg c_2, if_neg c_3, ← eo_4, ← eo_5, if_pos c_6]) C hRT hP hD hS (Nat.le_of_ble_eq_true rfl) (Nat.le_of_ble_eq_true rfl) rfl rfl dX9_hitsTarget_71
    · refine lv_aload_n hX hB dX9_hitsTarget_22 rfl (lv_at hl 0 rfl) ?_
      refine lv_iconst (v := 2) hX hB dX9_hitsTarget_23 (by decide) ?_
      refine lv_bipush (v := 20) hX hB dX9_hitsTarget_24 (by decide) ?_
      refine z_callVi (isC := [0, 1]) (isR := []) (isO := [0, 1]) (n_X9_scores o_1.2 2 20) (q_X9_scores cy h0 h1 h2 h3 h4 h5 h6 h7 h8 h9 v1 v2 v3 v4 v5 v6 v7 v8 v9 v10 v11) (fun o_9 => [(h0, .inr (11, [.ref h1, .ref h2, .ref h3, .ref h4, .ref h5, .int v1, .int v2, .int v3, .int v4, .int v5, .ref h6, .int v6, .ref h7, .ref h8, .ref h9, .int v7, .int v8, .int v9, .int v10, .int v11])), (h1, .inl (cy 0, 64, .inl (o_9.2)))]) (fun o_9 => o_9.1) (c_X9_scores l hE D cy h0 h1 h2 h3 h4 h5 h6 h7 h8 h9 v1 v2 v3 v4 v5 v6 v7 v8 v9 v10 v11 o_1.2 2 2 20 (zlit 2) (by omega) (zle_of (zi_tr (show o_1.2 3 = g 3 by rw [eo_1]; exact k_X9_counts g 3 (by omega)) hc.1) (by omega) (by decide))) hE C zs_X9_119 ⟨Nat.le_of_ble_eq_true rfl, Nat.le_of_ble_eq_true rfl⟩ hP hD hS hA hE0 ⟨rfl, rfl, rfl, by decide, rfl, rfl, rfl⟩ 0 rfl rfl rfl rfl hl.1 (Nat.le_of_ble_eq_true rfl) rfl dX9_hitsTarget_26 ⟨Nat.le_of_ble_eq_true rfl, Nat.le_of_ble_eq_true rfl⟩ (fun o_9 H locs eo_9 hP hD hS => ?_)
      exact z_iret' (o_9.1, o_9.2) (w' := q_X9_hitsTarget cy h0 h1 h2 h3 h4 h5 h6 h7 h8 h9 v1 v2 v3 v4 v5 v6 v7 v8 v9 v10 v11) (r0 := (fun (o : Int32 × (Nat → Int32)) => o.1)) (by simp only [n_X9_hitsTarget, ← eo_1, if_neg c_2, if_pos c_3, ← eo_9]) C hRT hP hD hS (Nat.le_of_ble_eq_true rfl) (Nat.le_of_ble_eq_true rfl) rfl rfl dX9_hitsTarget_29
  · refine lv_iconst (v := 0) hX hB dX9_hitsTarget_7 (by decide) ?_
    exact z_iret' (0, o_1.2) (w' := q_X9_hitsTarget cy h0 h1 h2 h3 h4 h5 h6 h7 h8 h9 v1 v2 v3 v4 v5 v6 v7 v8 v9 v10 v11) (r0 := (fun (o : Int32 × (Nat → Int32)) => o.1)) (by simp only [n_X9_hitsTarget, ← eo_1, if_pos c_2]) C hRT hP hD hS (Nat.le_of_ble_eq_true rfl) (Nat.le_of_ble_eq_true rfl) rfl rfl dX9_hitsTarget_8

def n_X9_nudges (g : Nat → Int32) (x : Int32) : Int32 × (Nat → Int32) :=
  let o_1 := n_X9_isTilt g
  if o_1 = 0 then
    if 5 ≤ (g 8) + x then
      if (g 9) + 1 = 3 then
        ((g 9) + 1, upd (upd (upd (upd (upd g 8 ((g 8) + x)) 8 0) 9 ((g 9) + 1)) 11 1) 15 ((g 15) + 1))
      else
        ((g 9) + 1, upd (upd (upd g 8 ((g 8) + x)) 8 0) 9 ((g 9) + 1))
    else
      (g 9, upd g 8 ((g 8) + x))
  else
    (g 9, g)
def q_X9_nudges (cy : Nat → ClassId) (h0 : Nat) (h1 : Nat) (h2 : Nat) (h3 : Nat) (h4 : Nat) (h5 : Nat) (h6 : Nat) (h7 : Nat) (h8 : Nat) (h9 : Nat) (v1 : Int32) (v2 : Int32) (v3 : Int32) (v4 : Int32) (v5 : Int32) (v6 : Int32) (v7 : Int32) (v8 : Int32) (v9 : Int32) (v10 : Int32) (v11 : Int32) (o : Int32 × (Nat → Int32)) : va_W := [(h0, .inr (11, [.ref h1, .ref h2, .ref h3, .ref h4, .ref h5, .int v1, .int v2, .int v3, .int v4, .int v5, .ref h6, .int v6, .ref h7, .ref h8, .ref h9, .int v7, .int v8, .int v9, .int v10, .int v11])), (h1, .inl (cy 0, 64, .inl (o.2)))]
theorem k_X9_nudges (g : Nat → Int32) (x : Int32)  (j : Nat) (hj : ¬ (8 ≤ j ∧ j ≤ 9) ∧ j ≠ 11 ∧ j ≠ 15) : (n_X9_nudges g x).2 j = g j := by
  simp only [n_X9_nudges]
  repeat (any_goals split)
  all_goals (try simp (disch := omega) only [pk_un])
set_option maxHeartbeats 4000000 in
set_option maxRecDepth 100000 in
theorem c_X9_nudges (l : Launch) {E : zEn} (hE : zEok E) (D : zG) (cy : Nat → ClassId) (h0 h1 h2 h3 h4 h5 h6 h7 h8 h9 : Nat) (v1 : Int32) (v2 : Int32) (v3 : Int32) (v4 : Int32) (v5 : Int32) (v6 : Int32) (v7 : Int32) (v8 : Int32) (v9 : Int32) (v10 : Int32) (v11 : Int32) (g : Nat → Int32) (x : Int32)  (sz : Nat) : Met l yX9_nudges (zws yX9_nudges cX9_nudges 2 (some .int)) { frames := 1, cells := 0, slots := 0, locals := 20 } (zPre E D cy [.ref h0, .int x] [(h0, .inr (11, [.ref h1, .ref h2, .ref h3, .ref h4, .ref h5, .int v1, .int v2, .int v3, .int v4, .int v5, .ref h6, .int v6, .ref h7, .ref h8, .ref h9, .int v7, .int v8, .int v9, .int v10, .int v11])), (h1, .inl (cy 0, 64, .inl (g)))] sz) (zQi D ((q_X9_nudges cy h0 h1 h2 h3 h4 h5 h6 h7 h8 h9 v1 v2 v3 v4 v5 v6 v7 v8 v9 v10 v11) (n_X9_nudges g x)) (va_A [(h0, .inr (11, [.ref h1, .ref h2, .ref h3, .ref h4, .ref h5, .int v1, .int v2, .int v3, .int v4, .int v5, .ref h6, .int v6, .ref h7, .ref h8, .ref h9, .int v7, .int v8, .int v9, .int v10, .int v11])), (h1, .inl (cy 0, 64, .inl (g)))] sz) ((n_X9_nudges g x).1)) 0 0 (va_A [(h0, .inr (11, [.ref h1, .ref h2, .ref h3, .ref h4, .ref h5, .int v1, .int v2, .int v3, .int v4, .int v5, .ref h6, .int v6, .ref h7, .ref h8, .ref h9, .int v7, .int v8, .int v9, .int v10, .int v11])), (h1, .inl (cy 0, 64, .inl (g)))] sz) := by
  refine z_of (Qc := fun A => zQi D ((q_X9_nudges cy h0 h1 h2 h3 h4 h5 h6 h7 h8 h9 v1 v2 v3 v4 v5 v6 v7 v8 v9 v10 v11) (n_X9_nudges g x)) A ((n_X9_nudges g x).1)) (by decide +kernel) (Nat.le_of_ble_eq_true rfl) rfl ?_
  intro pG eN sT mI below meth cO A ls C hRT hnm hA hP hD hS hE0 hl
  have hX := C.x
  have hB := C.b
  refine lv_aload_n hX hB dX9_nudges_0 rfl (lv_at hl 0 rfl) ?_
  refine z_callVi (isC := [0, 1]) (isR := []) (isO := [0, 1]) (n_X9_isTilt g) (q_X9_isTilt cy h0 h1 h2 h3 h4 h5 h6 h7 h8 h9 v1 v2 v3 v4 v5 v6 v7 v8 v9 v10 v11 g) (fun o_1 => [(h0, .inr (11, [.ref h1, .ref h2, .ref h3, .ref h4, .ref h5, .int v1, .int v2, .int v3, .int v4, .int v5, .ref h6, .int v6, .ref h7, .ref h8, .ref h9, .int v7, .int v8, .int v9, .int v10, .int v11])), (h1, .inl (cy 0, 64, .inl (g)))]) (fun o_1 => o_1) (c_X9_isTilt l hE D cy h0 h1 h2 h3 h4 h5 h6 h7 h8 h9 v1 v2 v3 v4 v5 v6 v7 v8 v9 v10 v11 g ) hE C zs_X9_113 ⟨Nat.le_of_ble_eq_true rfl, Nat.le_of_ble_eq_true rfl⟩ hP hD hS hA hE0 ⟨rfl, rfl, rfl, by decide, rfl, rfl, rfl⟩ 0 rfl rfl rfl rfl hl.1 (Nat.le_of_ble_eq_true rfl) rfl dX9_nudges_1 ⟨Nat.le_of_ble_eq_true rfl, Nat.le_of_ble_eq_true rfl⟩ (fun o_1 H locs eo_1 hP hD hS => ?_)
  refine lv_if_eq (tgt := 15) hX hB dX9_nudges_4 (by decide) (fun c_2 => ?_) (fun c_2 => ?_)
  · refine lv_aload_n hX hB dX9_nudges_15 rfl (lv_at hl 0 rfl) ?_
    refine fg_X9_7 C hP 0 rfl rfl dX9_nudges_16 ?_
    refine lv_bipush (v := 8) hX hB dX9_nudges_19 (by decide) ?_
    refine lv_dup2_11 hX hB dX9_nudges_21 rfl rfl ?_
    refine z_iald C hP 1 rfl (k := 8) (zlit 8) (by decide) (by decide) (v := g 8) rfl dX9_nudges_22 ?_
    refine lv_iload_n hX hB dX9_nudges_23 rfl (lv_at hl 1 rfl) ?_
    refine z_iadd (v := (g 8) + x) C dX9_nudges_24 rfl ?_
    refine z_iast C hP hD hS 1 rfl (k := 8) (zlit 8) (by decide) (by decide) (w' := [(h0, .inr (11, [.ref h1, .ref h2, .ref h3, .ref h4, .ref h5, .int v1, .int v2, .int v3, .int v4, .int v5, .ref h6, .int v6, .ref h7, .ref h8, .ref h9, .int v7, .int v8, .int v9, .int v10, .int v11])), (h1, .inl (cy 0, 64, .inl (upd g 8 ((g 8) + x))))]) rfl dX9_nudges_25 (fun H locs hP hD hS => ?_)
    refine lv_aload_n hX hB dX9_nudges_26 rfl (lv_at hl 0 rfl) ?_
    refine fg_X9_7 C hP 0 rfl rfl dX9_nudges_27 ?_
    refine lv_bipush (v := 8) hX hB dX9_nudges_30 (by decide) ?_
    refine z_iald C hP 1 rfl (k := 8) (zlit 8) (by decide) (by decide) (v := (g 8) + x) pk_us dX9_nudges_32 ?_
    refine lv_iconst (v := 5) hX hB dX9_nudges_33 (by decide) ?_
    refine lv_icmp_ge (tgt := 45) hX hB dX9_nudges_34 (by decide) (fun c_3 => ?_) (fun c_3 => ?_)
    · refine lv_aload_n hX hB dX9_nudges_45 rfl (lv_at hl 0 rfl) ?_
      refine fg_X9_7 C hP 0 rfl rfl dX9_nudges_46 ?_
      refine lv_bipush (v := 8) hX hB dX9_nudges_49 (by decide) ?_
      refine lv_iconst (v := 0) hX hB dX9_nudges_51 (by decide) ?_
      refine z_iast C hP hD hS 1 rfl (k := 8) (zlit 8) (by decide) (by decide) (w' := [(h0, .inr (11, [.ref h1, .ref h2, .ref h3, .ref h4, .ref h5, .int v1, .int v2, .int v3, .int v4, .int v5, .ref h6, .int v6, .ref h7, .ref h8, .ref h9, .int v7, .int v8, .int v9, .int v10, .int v11])), (h1, .inl (cy 0, 64, .inl (upd (upd g 8 ((g 8) + x)) 8 0)))]) rfl dX9_nudges_52 (fun H locs hP hD hS => ?_)
      refine lv_aload_n hX hB dX9_nudges_53 rfl (lv_at hl 0 rfl) ?_
      refine fg_X9_7 C hP 0 rfl rfl dX9_nudges_54 ?_
      refine lv_bipush (v := 9) hX hB dX9_nudges_57 (by decide) ?_
      refine lv_dup2_11 hX hB dX9_nudges_59 rfl rfl ?_
      refine z_iald C hP 1 rfl (k := 9) (zlit 9) (by decide) (by decide) (v := g 9) ((pk_un (by decide)).trans (pk_un (by decide))) dX9_nudges_60 ?_
      refine lv_iconst (v := 1) hX hB dX9_nudges_61 (by decide) ?_
      refine z_iadd (v := (g 9) + 1) C dX9_nudges_62 rfl ?_
      refine z_iast C hP hD hS 1 rfl (k := 9) (zlit 9) (by decide) (by decide) (w' := [(h0, .inr (11, [.ref h1, .ref h2, .ref h3, .ref h4, .ref h5, .int v1, .int v2, .int v3, .int v4, .int v5, .ref h6, .int v6, .ref h7, .ref h8, .ref h9, .int v7, .int v8, .int v9, .int v10, .int v11])), (h1, .inl (cy 0, 64, .inl (upd (upd (upd g 8 ((g 8) + x)) 8 0) 9 ((g 9) + 1))))]) rfl dX9_nudges_63 (fun H locs hP hD hS => ?_)
      refine lv_aload_n hX hB dX9_nudges_64 rfl (lv_at hl 0 rfl) ?_
      refine fg_X9_7 C hP 0 rfl rfl dX9_nudges_65 ?_
      refine lv_bipush (v := 9) hX hB dX9_nudges_68 (by decide) ?_
      refine z_iald C hP 1 rfl (k := 9) (zlit 9) (by decide) (by decide) (v := (g 9) + 1) pk_us dX9_nudges_70 ?_
      refine lv_iconst (v := 3) hX hB dX9_nudges_71 (by decide) ?_
      refine lv_icmp_ne (tgt := 94) hX hB dX9_nudges_72 (by decide) (fun c_4 => ?_) (fun c_4 => ?_)
      · refine lv_aload_n hX hB dX9_nudges_94 rfl (lv_at hl 0 rfl) ?_
        refine fg_X9_7 C hP 0 rfl rfl dX9_nudges_95 ?_
        refine lv_bipush (v := 9) hX hB dX9_nudges_98 (by decide) ?_
        refine z_iald C hP 1 rfl (k := 9) (zlit 9) (by decide) (by decide) (v := (g 9) + 1) pk_us dX9_nudges_100 ?_
        exact z_iret' ((g 9) + 1, upd (upd (upd g 8 ((g 8) + x)) 8 0) 9 ((g 9) + 1)) (w' := q_X9_nudges cy h0 h1 h2 h3 h4 h5 h6 h7 h8 h9 v1 v2 v3 v4 v5 v6 v7 v8 v9 v10 v11) (r0 := (fun (o : Int32 × (Nat → Int32)) => o.1)) (by simp only [n_X9_nudges, ← eo_1, if_pos c_2, if_pos c_3, if_neg c_4]) C hRT hP hD hS (Nat.le_of_ble_eq_true rfl) (Nat.le_of_ble_eq_true rfl) rfl rfl dX9_nudges_101
      · refine lv_aload_n hX hB dX9_nudges_75 rfl (lv_at hl 0 rfl) ?_
        refine fg_X9_7 C hP 0 rfl rfl dX9_nudges_76 ?_
        refine lv_bipush (v := 11) hX hB dX9_nudges_79 (by decide) ?_
        refine lv_iconst (v := 1) hX hB dX9_nudges_81 (by decide) ?_
        refine z_iast C hP hD hS 1 rfl (k := 11) (zlit 11) (by decide) (by decide) (w' := [(h0, .inr (11, [.ref h1, .ref h2, .ref h3, .ref h4, .ref h5, .int v1, .int v2, .int v3, .int v4, .int v5, .ref h6, .int v6, .ref h7, .ref h8, .ref h9, .int v7, .int v8, .int v9, .int v10, .int v11])), (h1, .inl (cy 0, 64, .inl (upd (upd (upd (upd g 8 ((g 8) + x)) 8 0) 9 ((g 9) + 1)) 11 1)))]) rfl dX9_nudges_82 (fun H locs hP hD hS => ?_)
        refine lv_aload_n hX hB dX9_nudges_83 rfl (lv_at hl 0 rfl) ?_
        refine fg_X9_7 C hP 0 rfl rfl dX9_nudges_84 ?_
        refine lv_bipush (v := 15) hX hB dX9_nudges_87 (by decide) ?_
        refine lv_dup2_11 hX hB dX9_nudges_89 rfl rfl ?_
        refine z_iald C hP 1 rfl (k := 15) (zlit 15) (by decide) (by decide) (v := g 15) ((pk_un (by decide)).trans ((pk_un (by decide)).trans ((pk_un (by decide)).trans (pk_un (by decide))))) dX9_nudges_90 ?_
        refine lv_iconst (v := 1) hX hB dX9_nudges_91 (by decide) ?_
        refine z_iadd (v := (g 15) + 1) C dX9_nudges_92 rfl ?_
        refine z_iast C hP hD hS 1 rfl (k := 15) (zlit 15) (by decide) (by decide) (w' := [(h0, .inr (11, [.ref h1, .ref h2, .ref h3, .ref h4, .ref h5, .int v1, .int v2, .int v3, .int v4, .int v5, .ref h6, .int v6, .ref h7, .ref h8, .ref h9, .int v7, .int v8, .int v9, .int v10, .int v11])), (h1, .inl (cy 0, 64, .inl (upd (upd (upd (upd (upd g 8 ((g 8) + x)) 8 0) 9 ((g 9) + 1)) 11 1) 15 ((g 15) + 1))))]) rfl dX9_nudges_93 (fun H locs hP hD hS => ?_)
        refine lv_aload_n hX hB dX9_nudges_94 rfl (lv_at hl 0 rfl) ?_
        refine fg_X9_7 C hP 0 rfl rfl dX9_nudges_95 ?_
        refine lv_bipush (v := 9) hX hB dX9_nudges_98 (by decide) ?_
        refine z_iald C hP 1 rfl (k := 9) (zlit 9) (by decide) (by decide) (v := (g 9) + 1) ((pk_un (by decide)).trans ((pk_un (by decide)).trans pk_us)) dX9_nudges_100 ?_
        exact z_iret' ((g 9) + 1, upd (upd (upd (upd (upd g 8 ((g 8) + x)) 8 0) 9 ((g 9) + 1)) 11 1) 15 ((g 15) + 1)) (w' := q_X9_nudges cy h0 h1 h2 h3 h4 h5 h6 h7 h8 h9 v1 v2 v3 v4 v5 v6 v7 v8 v9 v10 v11) (r0 := (fun (o : Int32 × (Nat → Int32)) => o.1)) (by simp only [n_X9_nudges, ← eo_1, if_pos c_2, if_pos c_3, if_pos c_4]) C hRT hP hD hS (Nat.le_of_ble_eq_true rfl) (Nat.le_of_ble_eq_true rfl) rfl rfl dX9_nudges_101
    · refine lv_aload_n hX hB dX9_nudges_37 rfl (lv_at hl 0 rfl) ?_
      refine fg_X9_7 C hP 0 rfl rfl dX9_nudges_38 ?_
      refine lv_bipush (v := 9) hX hB dX9_nudges_41 (by decide) ?_
      refine z_iald C hP 1 rfl (k := 9) (zlit 9) (by decide) (by decide) (v := g 9) (pk_un (by decide)) dX9_nudges_43 ?_
      exact z_iret' (g 9, upd g 8 ((g 8) + x)) (w' := q_X9_nudges cy h0 h1 h2 h3 h4 h5 h6 h7 h8 h9 v1 v2 v3 v4 v5 v6 v7 v8 v9 v10 v11) (r0 := (fun (o : Int32 × (Nat → Int32)) => o.1)) (by simp only [n_X9_nudges, ← eo_1, if_pos c_2, if_neg c_3]) C hRT hP hD hS (Nat.le_of_ble_eq_true rfl) (Nat.le_of_ble_eq_true rfl) rfl rfl dX9_nudges_44
  · refine lv_aload_n hX hB dX9_nudges_7 rfl (lv_at hl 0 rfl) ?_
    refine fg_X9_7 C hP 0 rfl rfl dX9_nudges_8 ?_
    refine lv_bipush (v := 9) hX hB dX9_nudges_11 (by decide) ?_
    refine z_iald C hP 1 rfl (k := 9) (zlit 9) (by decide) (by decide) (v := g 9) rfl dX9_nudges_13 ?_
    exact z_iret' (g 9, g) (w' := q_X9_nudges cy h0 h1 h2 h3 h4 h5 h6 h7 h8 h9 v1 v2 v3 v4 v5 v6 v7 v8 v9 v10 v11) (r0 := (fun (o : Int32 × (Nat → Int32)) => o.1)) (by simp only [n_X9_nudges, ← eo_1, if_neg c_2]) C hRT hP hD hS (Nat.le_of_ble_eq_true rfl) (Nat.le_of_ble_eq_true rfl) rfl rfl dX9_nudges_14

def n_X9_isSaver (g : Nat → Int32) : Int32 :=
  let o_1 := n_X9_isTilt g
  if o_1 = 0 then
    if 3 < g 10 then
      0
    else
      if g 12 = 0 then
        1
      else
        0
  else
    0
def q_X9_isSaver (cy : Nat → ClassId) (h0 : Nat) (h1 : Nat) (h2 : Nat) (h3 : Nat) (h4 : Nat) (h5 : Nat) (h6 : Nat) (h7 : Nat) (h8 : Nat) (h9 : Nat) (v1 : Int32) (v2 : Int32) (v3 : Int32) (v4 : Int32) (v5 : Int32) (v6 : Int32) (v7 : Int32) (v8 : Int32) (v9 : Int32) (v10 : Int32) (v11 : Int32) (g : Nat → Int32) (o : Int32) : va_W := [(h0, .inr (11, [.ref h1, .ref h2, .ref h3, .ref h4, .ref h5, .int v1, .int v2, .int v3, .int v4, .int v5, .ref h6, .int v6, .ref h7, .ref h8, .ref h9, .int v7, .int v8, .int v9, .int v10, .int v11])), (h1, .inl (cy 0, 64, .inl (g)))]
theorem b_X9_isSaver (g : Nat → Int32) : (n_X9_isSaver g) = 0 ∨ (n_X9_isSaver g) = 1 := by
  simp only [n_X9_isSaver]
  repeat (any_goals split)
  all_goals (first | exact Or.inl rfl | exact Or.inr rfl)
set_option maxHeartbeats 4000000 in
set_option maxRecDepth 100000 in
theorem c_X9_isSaver (l : Launch) {E : zEn} (hE : zEok E) (D : zG) (cy : Nat → ClassId) (h0 h1 h2 h3 h4 h5 h6 h7 h8 h9 : Nat) (v1 : Int32) (v2 : Int32) (v3 : Int32) (v4 : Int32) (v5 : Int32) (v6 : Int32) (v7 : Int32) (v8 : Int32) (v9 : Int32) (v10 : Int32) (v11 : Int32) (g : Nat → Int32)  (sz : Nat) : Met l yX9_isSaver (zws yX9_isSaver cX9_isSaver 1 (some .boolean)) { frames := 1, cells := 0, slots := 0, locals := 20 } (zPre E D cy [.ref h0] [(h0, .inr (11, [.ref h1, .ref h2, .ref h3, .ref h4, .ref h5, .int v1, .int v2, .int v3, .int v4, .int v5, .ref h6, .int v6, .ref h7, .ref h8, .ref h9, .int v7, .int v8, .int v9, .int v10, .int v11])), (h1, .inl (cy 0, 64, .inl (g)))] sz) (zQi D ((q_X9_isSaver cy h0 h1 h2 h3 h4 h5 h6 h7 h8 h9 v1 v2 v3 v4 v5 v6 v7 v8 v9 v10 v11 g) (n_X9_isSaver g)) (va_A [(h0, .inr (11, [.ref h1, .ref h2, .ref h3, .ref h4, .ref h5, .int v1, .int v2, .int v3, .int v4, .int v5, .ref h6, .int v6, .ref h7, .ref h8, .ref h9, .int v7, .int v8, .int v9, .int v10, .int v11])), (h1, .inl (cy 0, 64, .inl (g)))] sz) ((n_X9_isSaver g))) 0 0 (va_A [(h0, .inr (11, [.ref h1, .ref h2, .ref h3, .ref h4, .ref h5, .int v1, .int v2, .int v3, .int v4, .int v5, .ref h6, .int v6, .ref h7, .ref h8, .ref h9, .int v7, .int v8, .int v9, .int v10, .int v11])), (h1, .inl (cy 0, 64, .inl (g)))] sz) := by
  refine z_of (Qc := fun A => zQi D ((q_X9_isSaver cy h0 h1 h2 h3 h4 h5 h6 h7 h8 h9 v1 v2 v3 v4 v5 v6 v7 v8 v9 v10 v11 g) (n_X9_isSaver g)) A ((n_X9_isSaver g))) (by decide +kernel) (Nat.le_of_ble_eq_true rfl) rfl ?_
  intro pG eN sT mI below meth cO A ls C hRT hnm hA hP hD hS hE0 hl
  have hX := C.x
  have hB := C.b
  refine lv_aload_n hX hB dX9_isSaver_0 rfl (lv_at hl 0 rfl) ?_
  refine z_callVi (isC := [0, 1]) (isR := []) (isO := [0, 1]) (n_X9_isTilt g) (q_X9_isTilt cy h0 h1 h2 h3 h4 h5 h6 h7 h8 h9 v1 v2 v3 v4 v5 v6 v7 v8 v9 v10 v11 g) (fun o_1 => [(h0, .inr (11, [.ref h1, .ref h2, .ref h3, .ref h4, .ref h5, .int v1, .int v2, .int v3, .int v4, .int v5, .ref h6, .int v6, .ref h7, .ref h8, .ref h9, .int v7, .int v8, .int v9, .int v10, .int v11])), (h1, .inl (cy 0, 64, .inl (g)))]) (fun o_1 => o_1) (c_X9_isTilt l hE D cy h0 h1 h2 h3 h4 h5 h6 h7 h8 h9 v1 v2 v3 v4 v5 v6 v7 v8 v9 v10 v11 g ) hE C zs_X9_113 ⟨Nat.le_of_ble_eq_true rfl, Nat.le_of_ble_eq_true rfl⟩ hP hD hS hA hE0 ⟨rfl, rfl, rfl, by decide, rfl, rfl, rfl⟩ 0 rfl rfl rfl rfl hl.1 (Nat.le_of_ble_eq_true rfl) rfl dX9_isSaver_1 ⟨Nat.le_of_ble_eq_true rfl, Nat.le_of_ble_eq_true rfl⟩ (fun o_1 H locs eo_1 hP hD hS => ?_)
  refine lv_if_ne (tgt := 32) hX hB dX9_isSaver_4 (by decide) (fun c_2 => ?_) (fun c_2 => ?_)
  · refine lv_iconst (v := 0) hX hB dX9_isSaver_32 (by decide) ?_
    exact z_zret' 0 (w' := q_X9_isSaver cy h0 h1 h2 h3 h4 h5 h6 h7 h8 h9 v1 v2 v3 v4 v5 v6 v7 v8 v9 v10 v11 g) (r0 := (fun (o : Int32) => o)) (by simp only [n_X9_isSaver, ← eo_1, if_neg c_2]) C hRT (zb01 (Or.inl rfl)) hP hD hS (Nat.le_of_ble_eq_true rfl) (Nat.le_of_ble_eq_true rfl) rfl rfl dX9_isSaver_33
  · refine lv_aload_n hX hB dX9_isSaver_7 rfl (lv_at hl 0 rfl) ?_
    refine fg_X9_7 C hP 0 rfl rfl dX9_isSaver_8 ?_
    refine lv_bipush (v := 10) hX hB dX9_isSaver_11 (by decide) ?_
    refine z_iald C hP 1 rfl (k := 10) (zlit 10) (by decide) (by decide) (v := g 10) rfl dX9_isSaver_13 ?_
    refine lv_iconst (v := 3) hX hB dX9_isSaver_14 (by decide) ?_
    refine lv_icmp_gt (tgt := 32) hX hB dX9_isSaver_15 (by decide) (fun c_3 => ?_) (fun c_3 => ?_)
    · refine lv_iconst (v := 0) hX hB dX9_isSaver_32 (by decide) ?_
      exact z_zret' 0 (w' := q_X9_isSaver cy h0 h1 h2 h3 h4 h5 h6 h7 h8 h9 v1 v2 v3 v4 v5 v6 v7 v8 v9 v10 v11 g) (r0 := (fun (o : Int32) => o)) (by simp only [n_X9_isSaver, ← eo_1, if_pos c_2, if_pos c_3]) C hRT (zb01 (Or.inl rfl)) hP hD hS (Nat.le_of_ble_eq_true rfl) (Nat.le_of_ble_eq_true rfl) rfl rfl dX9_isSaver_33
    · refine lv_aload_n hX hB dX9_isSaver_18 rfl (lv_at hl 0 rfl) ?_
      refine fg_X9_7 C hP 0 rfl rfl dX9_isSaver_19 ?_
      refine lv_bipush (v := 12) hX hB dX9_isSaver_22 (by decide) ?_
      refine z_iald C hP 1 rfl (k := 12) (zlit 12) (by decide) (by decide) (v := g 12) rfl dX9_isSaver_24 ?_
      refine lv_if_ne (tgt := 32) hX hB dX9_isSaver_25 (by decide) (fun c_4 => ?_) (fun c_4 => ?_)
      · refine lv_iconst (v := 0) hX hB dX9_isSaver_32 (by decide) ?_
        exact z_zret' 0 (w' := q_X9_isSaver cy h0 h1 h2 h3 h4 h5 h6 h7 h8 h9 v1 v2 v3 v4 v5 v6 v7 v8 v9 v10 v11 g) (r0 := (fun (o : Int32) => o)) (by simp only [n_X9_isSaver, ← eo_1, if_pos c_2, if_neg c_3, if_neg c_4]) C hRT (zb01 (Or.inl rfl)) hP hD hS (Nat.le_of_ble_eq_true rfl) (Nat.le_of_ble_eq_true rfl) rfl rfl dX9_isSaver_33
      · refine lv_iconst (v := 1) hX hB dX9_isSaver_28 (by decide) ?_
        refine lv_goto (tgt := 33) hX hB dX9_isSaver_29 (by decide) ?_
        exact z_zret' 1 (w' := q_X9_isSaver cy h0 h1 h2 h3 h4 h5 h6 h7 h8 h9 v1 v2 v3 v4 v5 v6 v7 v8 v9 v10 v11 g) (r0 := (fun (o : Int32) => o)) (by simp only [n_X9_isSaver, ← eo_1, if_pos c_2, if_neg c_3, if_pos c_4]) C hRT (zb01 (Or.inr rfl)) hP hD hS (Nat.le_of_ble_eq_true rfl) (Nat.le_of_ble_eq_true rfl) rfl rfl dX9_isSaver_33

end M1
