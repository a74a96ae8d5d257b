
def n_X8_allTrue4 (f : Nat → Int32) : Int32 :=
  if f 0 = 0 then
    0
  else
    if f 1 = 0 then
      0
    else
      if f 2 = 0 then
        0
      else
        if f 3 = 0 then
          0
        else
          1
def q_X8_allTrue4 (cy : Nat → ClassId) (h1 : Nat) (f : Nat → Int32) (o : Int32) : va_W := [(h1, .inl (cy 1, 4, .inl (f)))]
theorem b_X8_allTrue4 (f : Nat → Int32) : (n_X8_allTrue4 f) = 0 ∨ (n_X8_allTrue4 f) = 1 := by
  simp only [n_X8_allTrue4]
  repeat (any_goals split)
  all_goals (first | exact Or.inl rfl | exact Or.inr rfl)
set_option maxHeartbeats 4000000 in
set_option maxRecDepth 100000 in
theorem c_X8_allTrue4 (l : Launch) {E : zEn} (hE : zEok E) (D : zG) (cy : Nat → ClassId) (h1 : Nat) (f : Nat → Int32)  (sz : Nat) : Met l yX8_allTrue (zws yX8_allTrue cX8_allTrue 5 (some .boolean)) { frames := 0, cells := 0, slots := 0, locals := 0 } (zPre E D cy [.ref h1] [(h1, .inl (cy 1, 4, .inl (f)))] sz) (zQi D ((q_X8_allTrue4 cy h1 f) (n_X8_allTrue4 f)) (va_A [(h1, .inl (cy 1, 4, .inl (f)))] sz) ((n_X8_allTrue4 f))) 0 0 (va_A [(h1, .inl (cy 1, 4, .inl (f)))] sz) := by
  refine z_of (Qc := fun A => zQi D ((q_X8_allTrue4 cy h1 f) (n_X8_allTrue4 f)) A ((n_X8_allTrue4 f))) (by decide +kernel) (Nat.le_of_ble_eq_true rfl) rfl ?_
  intro pG eN sT mI below meth cO A ls C hRT hnm hA hP hD hS hE0 hl
  have hX := C.x
  have hB := C.b
  refine lv_aload_n hX hB dX8_allTrue_0 rfl (lv_at hl 0 rfl) ?_
  refine lv_astore_n (lv' := [(1, .ref h1), (0, .ref h1)]) hX hB dX8_allTrue_1 rfl hl (by decide) rfl (fun ls hl => ?_)
  refine lv_aload_n hX hB dX8_allTrue_2 rfl (lv_at hl 0 rfl) ?_
  refine z_alen C hP 0 1 rfl rfl (v := 4) (show Int32.ofNat 4 = 4 from by decide) dX8_allTrue_3 ?_
  refine lv_istore_n (lv' := [(2, .int 4), (1, .ref h1), (0, .ref h1)]) hX hB dX8_allTrue_4 rfl hl (by decide) rfl (fun ls hl => ?_)
  refine lv_iconst (v := 0) hX hB dX8_allTrue_5 (by decide) ?_
  refine lv_istore_n (lv' := [(3, .int 0), (2, .int 4), (1, .ref h1), (0, .ref h1)]) hX hB dX8_allTrue_6 rfl hl (by decide) rfl (fun ls hl => ?_)
  refine lv_iload_n hX hB dX8_allTrue_7 rfl (lv_at hl 0 rfl) ?_
  refine lv_iload_n hX hB dX8_allTrue_8 rfl (lv_at hl 1 rfl) ?_
  refine lv_icmp_ge (tgt := 30) hX hB dX8_allTrue_9 (by decide) (fun c => absurd c (by decide)) (fun _ => ?_)
  refine lv_aload_n hX hB dX8_allTrue_12 rfl (lv_at hl 2 rfl) ?_
  refine lv_iload_n hX hB dX8_allTrue_13 rfl (lv_at hl 0 rfl) ?_
  refine z_zald C hP 0 rfl (k := 0) (zlit 0) (by decide) (by decide) (v := f 0) rfl dX8_allTrue_14 ?_
  refine lv_istore (lv' := [(4, .int (f 0)), (3, .int 0), (2, .int 4), (1, .ref h1), (0, .ref h1)]) hX hB dX8_allTrue_15 hl (by decide) rfl (fun ls hl => ?_)
  refine lv_iload hX hB dX8_allTrue_17 (lv_at hl 0 rfl) ?_
  refine lv_if_ne (tgt := 24) hX hB dX8_allTrue_19 (by decide) (fun c_1 => ?_) (fun c_1 => ?_)
  · refine lv_iinc (v := 1) (lv' := [(3, .int 1), (4, .int (f 0)), (2, .int 4), (1, .ref h1), (0, .ref h1)]) hX hB dX8_allTrue_24 hl (k := 1) rfl (by decide) (by decide) rfl (fun ls hl => ?_)
    refine lv_goto (tgt := 7) hX hB dX8_allTrue_27 (by decide) ?_
    refine lv_iload_n hX hB dX8_allTrue_7 rfl (lv_at hl 0 rfl) ?_
    refine lv_iload_n hX hB dX8_allTrue_8 rfl (lv_at hl 2 rfl) ?_
    refine lv_icmp_ge (tgt := 30) hX hB dX8_allTrue_9 (by decide) (fun c => absurd c (by decide)) (fun _ => ?_)
    refine lv_aload_n hX hB dX8_allTrue_12 rfl (lv_at hl 3 rfl) ?_
    refine lv_iload_n hX hB dX8_allTrue_13 rfl (lv_at hl 0 rfl) ?_
    refine z_zald C hP 0 rfl (k := 1) (zlit 1) (by decide) (by decide) (v := f 1) rfl dX8_allTrue_14 ?_
    refine lv_istore (lv' := [(4, .int (f 1)), (3, .int 1), (2, .int 4), (1, .ref h1), (0, .ref h1)]) hX hB dX8_allTrue_15 hl (by decide) rfl (fun ls hl => ?_)
    refine lv_iload hX hB dX8_allTrue_17 (lv_at hl 0 rfl) ?_
    refine lv_if_ne (tgt := 24) hX hB dX8_allTrue_19 (by decide) (fun c_2 => ?_) (fun c_2 => ?_)
    · refine lv_iinc (v := 2) (lv' := [(3, .int 2), (4, .int (f 1)), (2, .int 4), (1, .ref h1), (0, .ref h1)]) hX hB dX8_allTrue_24 hl (k := 1) rfl (by decide) (by decide) rfl (fun ls hl => ?_)
      refine lv_goto (tgt := 7) hX hB dX8_allTrue_27 (by decide) ?_
      refine lv_iload_n hX hB dX8_allTrue_7 rfl (lv_at hl 0 rfl) ?_
      refine lv_iload_n hX hB dX8_allTrue_8 rfl (lv_at hl 2 rfl) ?_
      refine lv_icmp_ge (tgt := 30) hX hB dX8_allTrue_9 (by decide) (fun c => absurd c (by decide)) (fun _ => ?_)
      refine lv_aload_n hX hB dX8_allTrue_12 rfl (lv_at hl 3 rfl) ?_
      refine lv_iload_n hX hB dX8_allTrue_13 rfl (lv_at hl 0 rfl) ?_
      refine z_zald C hP 0 rfl (k := 2) (zlit 2) (by decide) (by decide) (v := f 2) rfl dX8_allTrue_14 ?_
      refine lv_istore (lv' := [(4, .int (f 2)), (3, .int 2), (2, .int 4), (1, .ref h1), (0, .ref h1)]) hX hB dX8_allTrue_15 hl (by decide) rfl (fun ls hl => ?_)
      refine lv_iload hX hB dX8_allTrue_17 (lv_at hl 0 rfl) ?_
      refine lv_if_ne (tgt := 24) hX hB dX8_allTrue_19 (by decide) (fun c_3 => ?_) (fun c_3 => ?_)
      · refine lv_iinc (v := 3) (lv' := [(3, .int 3), (4, .int (f 2)), (2, .int 4), (1, .ref h1), (0, .ref h1)]) hX hB dX8_allTrue_24 hl (k := 1) rfl (by decide) (by decide) rfl (fun ls hl => ?_)
        refine lv_goto (tgt := 7) hX hB dX8_allTrue_27 (by decide) ?_
        refine lv_iload_n hX hB dX8_allTrue_7 rfl (lv_at hl 0 rfl) ?_
        refine lv_iload_n hX hB dX8_allTrue_8 rfl (lv_at hl 2 rfl) ?_
        refine lv_icmp_ge (tgt := 30) hX hB dX8_allTrue_9 (by decide) (fun c => absurd c (by decide)) (fun _ => ?_)
        refine lv_aload_n hX hB dX8_allTrue_12 rfl (lv_at hl 3 rfl) ?_
        refine lv_iload_n hX hB dX8_allTrue_13 rfl (lv_at hl 0 rfl) ?_
        refine z_zald C hP 0 rfl (k := 3) (zlit 3) (by decide) (by decide) (v := f 3) rfl dX8_allTrue_14 ?_
        refine lv_istore (lv' := [(4, .int (f 3)), (3, .int 3), (2, .int 4), (1, .ref h1), (0, .ref h1)]) hX hB dX8_allTrue_15 hl (by decide) rfl (fun ls hl => ?_)
        refine lv_iload hX hB dX8_allTrue_17 (lv_at hl 0 rfl) ?_
        refine lv_if_ne (tgt := 24) hX hB dX8_allTrue_19 (by decide) (fun c_4 => ?_) (fun c_4 => ?_)
        · refine lv_iinc (v := 4) (lv' := [(3, .int 4), (4, .int (f 3)), (2, .int 4), (1, .ref h1), (0, .ref h1)]) hX hB dX8_allTrue_24 hl (k := 1) rfl (by decide) (by decide) rfl (fun ls hl => ?_)
          refine lv_goto (tgt := 7) hX hB dX8_allTrue_27 (by decide) ?_
          refine lv_iload_n hX hB dX8_allTrue_7 rfl (lv_at hl 0 rfl) ?_
          refine lv_iload_n hX hB dX8_allTrue_8 rfl (lv_at hl 2 rfl) ?_
          refine lv_icmp_ge (tgt := 30) hX hB dX8_allTrue_9 (by decide) (fun _ => ?_) (fun c => absurd (by decide) c)
          refine lv_iconst (v := 1) hX hB dX8_allTrue_30 (by decide) ?_
          exact z_zret' 1 (w' := q_X8_allTrue4 cy h1 f) (r0 := (fun (o : Int32) => o)) (by simp only [n_X8_allTrue4, if_neg c_1, if_neg c_2, if_neg c_3, if_neg c_4]) C hRT (zb01 (Or.inr rfl)) hP hD hS (Nat.le_of_ble_eq_true rfl) (Nat.le_of_ble_eq_true rfl) rfl rfl dX8_allTrue_31
        · refine lv_iconst (v := 0) hX hB dX8_allTrue_22 (by decide) ?_
          exact z_zret' 0 (w' := q_X8_allTrue4 cy h1 f) (r0 := (fun (o : Int32) => o)) (by simp only [n_X8_allTrue4, if_neg c_1, if_neg c_2, if_neg c_3, if_pos c_4]) C hRT (zb01 (Or.inl rfl)) hP hD hS (Nat.le_of_ble_eq_true rfl) (Nat.le_of_ble_eq_true rfl) rfl rfl dX8_allTrue_23
      · refine lv_iconst (v := 0) hX hB dX8_allTrue_22 (by decide) ?_
        exact z_zret' 0 (w' := q_X8_allTrue4 cy h1 f) (r0 := (fun (o : Int32) => o)) (by simp only [n_X8_allTrue4, if_neg c_1, if_neg c_2, if_pos c_3]) C hRT (zb01 (Or.inl rfl)) hP hD hS (Nat.le_of_ble_eq_true rfl) (Nat.le_of_ble_eq_true rfl) rfl rfl dX8_allTrue_23
    · refine lv_iconst (v := 0) hX hB dX8_allTrue_22 (by decide) ?_
      exact z_zret' 0 (w' := q_X8_allTrue4 cy h1 f) (r0 := (fun (o : Int32) => o)) (by simp only [n_X8_allTrue4, if_neg c_1, if_pos c_2]) C hRT (zb01 (Or.inl rfl)) hP hD hS (Nat.le_of_ble_eq_true rfl) (Nat.le_of_ble_eq_true rfl) rfl rfl dX8_allTrue_23
  · refine lv_iconst (v := 0) hX hB dX8_allTrue_22 (by decide) ?_
    exact z_zret' 0 (w' := q_X8_allTrue4 cy h1 f) (r0 := (fun (o : Int32) => o)) (by simp only [n_X8_allTrue4, if_pos c_1]) C hRT (zb01 (Or.inl rfl)) hP hD hS (Nat.le_of_ble_eq_true rfl) (Nat.le_of_ble_eq_true rfl) rfl rfl dX8_allTrue_23

def q_X8_clearAll4 (cy : Nat → ClassId) (h1 : Nat) (f : Nat → Int32) (o : Unit) : va_W := [(h1, .inl (cy 1, 4, .inl (upd (upd (upd (upd f 0 0) 1 0) 2 0) 3 0)))]
set_option maxHeartbeats 4000000 in
set_option maxRecDepth 100000 in
theorem c_X8_clearAll4 (l : Launch) {E : zEn} (hE : zEok E) (D : zG) (cy : Nat → ClassId) (h1 : Nat) (f : Nat → Int32)  (sz : Nat) : Met l yX8_clearAll (zws yX8_clearAll cX8_clearAll 2 none) { frames := 0, cells := 0, slots := 0, locals := 0 } (zPre E D cy [.ref h1] [(h1, .inl (cy 1, 4, .inl (f)))] sz) (zQv D ((q_X8_clearAll4 cy h1 f) ()) (va_A [(h1, .inl (cy 1, 4, .inl (f)))] sz)) 0 0 (va_A [(h1, .inl (cy 1, 4, .inl (f)))] sz) := by
  refine z_of (Qc := fun A => zQv D ((q_X8_clearAll4 cy h1 f) ()) A) (by decide +kernel) (Nat.le_of_ble_eq_true rfl) rfl ?_
  intro pG eN sT mI below meth cO A ls C hRT hnm hA hP hD hS hE0 hl
  have hX := C.x
  have hB := C.b
  refine lv_iconst (v := 0) hX hB dX8_clearAll_0 (by decide) ?_
  refine lv_istore_n (lv' := [(1, .int 0), (0, .ref h1)]) hX hB dX8_clearAll_1 rfl hl (by decide) rfl (fun ls hl => ?_)
  refine lv_iload_n hX hB dX8_clearAll_2 rfl (lv_at hl 0 rfl) ?_
  refine lv_aload_n hX hB dX8_clearAll_3 rfl (lv_at hl 1 rfl) ?_
  refine z_alen C hP 0 1 rfl rfl (v := 4) (show Int32.ofNat 4 = 4 from by decide) dX8_clearAll_4 ?_
  refine lv_icmp_ge (tgt := 18) hX hB dX8_clearAll_5 (by decide) (fun c => absurd c (by decide)) (fun _ => ?_)
  refine lv_aload_n hX hB dX8_clearAll_8 rfl (lv_at hl 1 rfl) ?_
  refine lv_iload_n hX hB dX8_clearAll_9 rfl (lv_at hl 0 rfl) ?_
  refine lv_iconst (v := 0) hX hB dX8_clearAll_10 (by decide) ?_
  refine z_zast C hP hD hS 0 rfl (k := 0) (zlit 0) (by decide) (by decide) (znar (Or.inl rfl)) (w' := [(h1, .inl (cy 1, 4, .inl (upd f 0 0)))]) rfl dX8_clearAll_11 (fun H locs hP hD hS => ?_)
  refine lv_iinc (v := 1) (lv' := [(1, .int 1), (0, .ref h1)]) hX hB dX8_clearAll_12 hl (k := 0) rfl (by decide) (by decide) rfl (fun ls hl => ?_)
  refine lv_goto (tgt := 2) hX hB dX8_clearAll_15 (by decide) ?_
  refine lv_iload_n hX hB dX8_clearAll_2 rfl (lv_at hl 0 rfl) ?_
  refine lv_aload_n hX hB dX8_clearAll_3 rfl (lv_at hl 1 rfl) ?_
  refine z_alen C hP 0 1 rfl rfl (v := 4) (show Int32.ofNat 4 = 4 from by decide) dX8_clearAll_4 ?_
  refine lv_icmp_ge (tgt := 18) hX hB dX8_clearAll_5 (by decide) (fun c => absurd c (by decide)) (fun _ => ?_)
  refine lv_aload_n hX hB dX8_clearAll_8 rfl (lv_at hl 1 rfl) ?_
  refine lv_iload_n hX hB dX8_clearAll_9 rfl (lv_at hl 0 rfl) ?_
  refine lv_iconst (v := 0) hX hB dX8_clearAll_10 (by decide) ?_
  refine z_zast C hP hD hS 0 rfl (k := 1) (zlit 1) (by decide) (by decide) (znar (Or.inl rfl)) (w' := [(h1, .inl (cy 1, 4, .inl (upd (upd f 0 0) 1 0)))]) rfl dX8_clearAll_11 (fun H locs hP hD hS => ?_)
  refine lv_iinc (v := 2) (lv' := [(1, .int 2), (0, .ref h1)]) hX hB dX8_clearAll_12 hl (k := 0) rfl (by decide) (by decide) rfl (fun ls hl => ?_)
  refine lv_goto (tgt := 2) hX hB dX8_clearAll_15 (by decide) ?_
  refine lv_iload_n hX hB dX8_clearAll_2 rfl (lv_at hl 0 rfl) ?_
  refine lv_aload_n hX hB dX8_clearAll_3 rfl (lv_at hl 1 rfl) ?_
  refine z_alen C hP 0 1 rfl rfl (v := 4) (show Int32.ofNat 4 = 4 from by decide) dX8_clearAll_4 ?_
  refine lv_icmp_ge (tgt := 18) hX hB dX8_clearAll_5 (by decide) (fun c => absurd c (by decide)) (fun _ => ?_)
  refine lv_aload_n hX hB dX8_clearAll_8 rfl (lv_at hl 1 rfl) ?_
  refine lv_iload_n hX hB dX8_clearAll_9 rfl (lv_at hl 0 rfl) ?_
  refine lv_iconst (v := 0) hX hB dX8_clearAll_10 (by decide) ?_
  refine z_zast C hP hD hS 0 rfl (k := 2) (zlit 2) (by decide) (by decide) (znar (Or.inl rfl)) (w' := [(h1, .inl (cy 1, 4, .inl (upd (upd (upd f 0 0) 1 0) 2 0)))]) rfl dX8_clearAll_11 (fun H locs hP hD hS => ?_)
  refine lv_iinc (v := 3) (lv' := [(1, .int 3), (0, .ref h1)]) hX hB dX8_clearAll_12 hl (k := 0) rfl (by decide) (by decide) rfl (fun ls hl => ?_)
  refine lv_goto (tgt := 2) hX hB dX8_clearAll_15 (by decide) ?_
  refine lv_iload_n hX hB dX8_clearAll_2 rfl (lv_at hl 0 rfl) ?_
  refine lv_aload_n hX hB dX8_clearAll_3 rfl (lv_at hl 1 rfl) ?_
  refine z_alen C hP 0 1 rfl rfl (v := 4) (show Int32.ofNat 4 = 4 from by decide) dX8_clearAll_4 ?_
  refine lv_icmp_ge (tgt := 18) hX hB dX8_clearAll_5 (by decide) (fun c => absurd c (by decide)) (fun _ => ?_)
  refine lv_aload_n hX hB dX8_clearAll_8 rfl (lv_at hl 1 rfl) ?_
  refine lv_iload_n hX hB dX8_clearAll_9 rfl (lv_at hl 0 rfl) ?_
  refine lv_iconst (v := 0) hX hB dX8_clearAll_10 (by decide) ?_
  refine z_zast C hP hD hS 0 rfl (k := 3) (zlit 3) (by decide) (by decide) (znar (Or.inl rfl)) (w' := [(h1, .inl (cy 1, 4, .inl (upd (upd (upd (upd f 0 0) 1 0) 2 0) 3 0)))]) rfl dX8_clearAll_11 (fun H locs hP hD hS => ?_)
  refine lv_iinc (v := 4) (lv' := [(1, .int 4), (0, .ref h1)]) hX hB dX8_clearAll_12 hl (k := 0) rfl (by decide) (by decide) rfl (fun ls hl => ?_)
  refine lv_goto (tgt := 2) hX hB dX8_clearAll_15 (by decide) ?_
  refine lv_iload_n hX hB dX8_clearAll_2 rfl (lv_at hl 0 rfl) ?_
  refine lv_aload_n hX hB dX8_clearAll_3 rfl (lv_at hl 1 rfl) ?_
  refine z_alen C hP 0 1 rfl rfl (v := 4) (show Int32.ofNat 4 = 4 from by decide) dX8_clearAll_4 ?_
  refine lv_icmp_ge (tgt := 18) hX hB dX8_clearAll_5 (by decide) (fun _ => ?_) (fun c => absurd (by decide) c)
  exact z_vret' () (w' := q_X8_clearAll4 cy h1 f) rfl C hRT hP hD hS (Nat.le_of_ble_eq_true rfl) (Nat.le_of_ble_eq_true rfl) rfl dX8_clearAll_18

def q_X8_copyAll4 (cy : Nat → ClassId) (h1 : Nat) (h2 : Nat) (f : Nat → Int32) (g : Nat → Int32) (o : Unit) : va_W := [(h1, .inl (cy 1, 4, .inl (f))), (h2, .inl (cy 1, 4, .inl (upd (upd (upd (upd g 0 (f 0)) 1 (f 1)) 2 (f 2)) 3 (f 3))))]
set_option maxHeartbeats 4000000 in
set_option maxRecDepth 100000 in
theorem c_X8_copyAll4 (l : Launch) {E : zEn} (hE : zEok E) (D : zG) (cy : Nat → ClassId) (h1 h2 : Nat) (f : Nat → Int32) (g : Nat → Int32) (hzf : zbl f 4) (sz : Nat) : Met l yX8_copyAll (zws yX8_copyAll cX8_copyAll 3 none) { frames := 0, cells := 0, slots := 0, locals := 0 } (zPre E D cy [.ref h1, .ref h2] [(h1, .inl (cy 1, 4, .inl (f))), (h2, .inl (cy 1, 4, .inl (g)))] sz) (zQv D ((q_X8_copyAll4 cy h1 h2 f g) ()) (va_A [(h1, .inl (cy 1, 4, .inl (f))), (h2, .inl (cy 1, 4, .inl (g)))] sz)) 0 0 (va_A [(h1, .inl (cy 1, 4, .inl (f))), (h2, .inl (cy 1, 4, .inl (g)))] sz) := by
  refine z_of (Qc := fun A => zQv D ((q_X8_copyAll4 cy h1 h2 f g) ()) A) (by decide +kernel) (Nat.le_of_ble_eq_true rfl) rfl ?_
  intro pG eN sT mI below meth cO A ls C hRT hnm hA hP hD hS hE0 hl
  have hX := C.x
  have hB := C.b
  refine lv_iconst (v := 0) hX hB dX8_copyAll_0 (by decide) ?_
  refine lv_istore_n (lv' := [(2, .int 0), (0, .ref h1), (1, .ref h2)]) hX hB dX8_copyAll_1 rfl hl (by decide) rfl (fun ls hl => ?_)
  refine lv_iload_n hX hB dX8_copyAll_2 rfl (lv_at hl 0 rfl) ?_
  refine lv_aload_n hX hB dX8_copyAll_3 rfl (lv_at hl 1 rfl) ?_
  refine z_alen C hP 0 1 rfl rfl (v := 4) (show Int32.ofNat 4 = 4 from by decide) dX8_copyAll_4 ?_
  refine lv_icmp_ge (tgt := 26) hX hB dX8_copyAll_5 (by decide) (fun c => absurd c (by decide)) (fun _ => ?_)
  refine lv_iload_n hX hB dX8_copyAll_8 rfl (lv_at hl 0 rfl) ?_
  refine lv_aload_n hX hB dX8_copyAll_9 rfl (lv_at hl 2 rfl) ?_
  refine z_alen C hP 1 1 rfl rfl (v := 4) (show Int32.ofNat 4 = 4 from by decide) dX8_copyAll_10 ?_
  refine lv_icmp_ge (tgt := 26) hX hB dX8_copyAll_11 (by decide) (fun c => absurd c (by decide)) (fun _ => ?_)
  refine lv_aload_n hX hB dX8_copyAll_14 rfl (lv_at hl 2 rfl) ?_
  refine lv_iload_n hX hB dX8_copyAll_15 rfl (lv_at hl 0 rfl) ?_
  refine lv_aload_n hX hB dX8_copyAll_16 rfl (lv_at hl 1 rfl) ?_
  refine lv_iload_n hX hB dX8_copyAll_17 rfl (lv_at hl 0 rfl) ?_
  refine z_zald C hP 0 rfl (k := 0) (zlit 0) (by decide) (by decide) (v := f 0) rfl dX8_copyAll_18 ?_
  refine z_zast C hP hD hS 1 rfl (k := 0) (zlit 0) (by decide) (by decide) (znar (hzf 0 (by decide))) (w' := [(h1, .inl (cy 1, 4, .inl (f))), (h2, .inl (cy 1, 4, .inl (upd g 0 (f 0))))]) rfl dX8_copyAll_19 (fun H locs hP hD hS => ?_)
  refine lv_iinc (v := 1) (lv' := [(2, .int 1), (0, .ref h1), (1, .ref h2)]) hX hB dX8_copyAll_20 hl (k := 0) rfl (by decide) (by decide) rfl (fun ls hl => ?_)
  refine lv_goto (tgt := 2) hX hB dX8_copyAll_23 (by decide) ?_
  refine lv_iload_n hX hB dX8_copyAll_2 rfl (lv_at hl 0 rfl) ?_
  refine lv_aload_n hX hB dX8_copyAll_3 rfl (lv_at hl 1 rfl) ?_
  refine z_alen C hP 0 1 rfl rfl (v := 4) (show Int32.ofNat 4 = 4 from by decide) dX8_copyAll_4 ?_
  refine lv_icmp_ge (tgt := 26) hX hB dX8_copyAll_5 (by decide) (fun c => absurd c (by decide)) (fun _ => ?_)
  refine lv_iload_n hX hB dX8_copyAll_8 rfl (lv_at hl 0 rfl) ?_
  refine lv_aload_n hX hB dX8_copyAll_9 rfl (lv_at hl 2 rfl) ?_
  refine z_alen C hP 1 1 rfl rfl (v := 4) (show Int32.ofNat 4 = 4 from by decide) dX8_copyAll_10 ?_
  refine lv_icmp_ge (tgt := 26) hX hB dX8_copyAll_11 (by decide) (fun c => absurd c (by decide)) (fun _ => ?_)
  refine lv_aload_n hX hB dX8_copyAll_14 rfl (lv_at hl 2 rfl) ?_
  refine lv_iload_n hX hB dX8_copyAll_15 rfl (lv_at hl 0 rfl) ?_
  refine lv_aload_n hX hB dX8_copyAll_16 rfl (lv_at hl 1 rfl) ?_
  refine lv_iload_n hX hB dX8_copyAll_17 rfl (lv_at hl 0 rfl) ?_
  refine z_zald C hP 0 rfl (k := 1) (zlit 1) (by decide) (by decide) (v := f 1) rfl dX8_copyAll_18 ?_
  refine z_zast C hP hD hS 1 rfl (k := 1) (zlit 1) (by decide) (by decide) (znar (hzf 1 (by decide))) (w' := [(h1, .inl (cy 1, 4, .inl (f))), (h2, .inl (cy 1, 4, .inl (upd (upd g 0 (f 0)) 1 (f 1))))]) rfl dX8_copyAll_19 (fun H locs hP hD hS => ?_)
  refine lv_iinc (v := 2) (lv' := [(2, .int 2), (0, .ref h1), (1, .ref h2)]) hX hB dX8_copyAll_20 hl (k := 0) rfl (by decide) (by decide) rfl (fun ls hl => ?_)
  refine lv_goto (tgt := 2) hX hB dX8_copyAll_23 (by decide) ?_
  refine lv_iload_n hX hB dX8_copyAll_2 rfl (lv_at hl 0 rfl) ?_
  refine lv_aload_n hX hB dX8_copyAll_3 rfl (lv_at hl 1 rfl) ?_
  refine z_alen C hP 0 1 rfl rfl (v := 4) (show Int32.ofNat 4 = 4 from by decide) dX8_copyAll_4 ?_
  refine lv_icmp_ge (tgt := 26) hX hB dX8_copyAll_5 (by decide) (fun c => absurd c (by decide)) (fun _ => ?_)
  refine lv_iload_n hX hB dX8_copyAll_8 rfl (lv_at hl 0 rfl) ?_
  refine lv_aload_n hX hB dX8_copyAll_9 rfl (lv_at hl 2 rfl) ?_
  refine z_alen C hP 1 1 rfl rfl (v := 4) (show Int32.ofNat 4 = 4 from by decide) dX8_copyAll_10 ?_
  refine lv_icmp_ge (tgt := 26) hX hB dX8_copyAll_11 (by decide) (fun c => absurd c (by decide)) (fun _ => ?_)
  refine lv_aload_n hX hB dX8_copyAll_14 rfl (lv_at hl 2 rfl) ?_
  refine lv_iload_n hX hB dX8_copyAll_15 rfl (lv_at hl 0 rfl) ?_
  refine lv_aload_n hX hB dX8_copyAll_16 rfl (lv_at hl 1 rfl) ?_
  refine lv_iload_n hX hB dX8_copyAll_17 rfl (lv_at hl 0 rfl) ?_
  refine z_zald C hP 0 rfl (k := 2) (zlit 2) (by decide) (by decide) (v := f 2) rfl dX8_copyAll_18 ?_
  refine z_zast C hP hD hS 1 rfl (k := 2) (zlit 2) (by decide) (by decide) (znar (hzf 2 (by decide))) (w' := [(h1, .inl (cy 1, 4, .inl (f))), (h2, .inl (cy 1, 4, .inl (upd (upd (upd g 0 (f 0)) 1 (f 1)) 2 (f 2))))]) rfl dX8_copyAll_19 (fun H locs hP hD hS => ?_)
  refine lv_iinc (v := 3) (lv' := [(2, .int 3), (0, .ref h1), (1, .ref h2)]) hX hB dX8_copyAll_20 hl (k := 0) rfl (by decide) (by decide) rfl (fun ls hl => ?_)
  refine lv_goto (tgt := 2) hX hB dX8_copyAll_23 (by decide) ?_
  refine lv_iload_n hX hB dX8_copyAll_2 rfl (lv_at hl 0 rfl) ?_
  refine lv_aload_n hX hB dX8_copyAll_3 rfl (lv_at hl 1 rfl) ?_
  refine z_alen C hP 0 1 rfl rfl (v := 4) (show Int32.ofNat 4 = 4 from by decide) dX8_copyAll_4 ?_
  refine lv_icmp_ge (tgt := 26) hX hB dX8_copyAll_5 (by decide) (fun c => absurd c (by decide)) (fun _ => ?_)
  refine lv_iload_n hX hB dX8_copyAll_8 rfl (lv_at hl 0 rfl) ?_
  refine lv_aload_n hX hB dX8_copyAll_9 rfl (lv_at hl 2 rfl) ?_
  refine z_alen C hP 1 1 rfl rfl (v := 4) (show Int32.ofNat 4 = 4 from by decide) dX8_copyAll_10 ?_
  refine lv_icmp_ge (tgt := 26) hX hB dX8_copyAll_11 (by decide) (fun c => absurd c (by decide)) (fun _ => ?_)
  refine lv_aload_n hX hB dX8_copyAll_14 rfl (lv_at hl 2 rfl) ?_
  refine lv_iload_n hX hB dX8_copyAll_15 rfl (lv_at hl 0 rfl) ?_
  refine lv_aload_n hX hB dX8_copyAll_16 rfl (lv_at hl 1 rfl) ?_
  refine lv_iload_n hX hB dX8_copyAll_17 rfl (lv_at hl 0 rfl) ?_
  refine z_zald C hP 0 rfl (k := 3) (zlit 3) (by decide) (by decide) (v := f 3) rfl dX8_copyAll_18 ?_
  refine z_zast C hP hD hS 1 rfl (k := 3) (zlit 3) (by decide) (by decide) (znar (hzf 3 (by decide))) (w' := [(h1, .inl (cy 1, 4, .inl (f))), (h2, .inl (cy 1, 4, .inl (upd (upd (upd (upd g 0 (f 0)) 1 (f 1)) 2 (f 2)) 3 (f 3))))]) rfl dX8_copyAll_19 (fun H locs hP hD hS => ?_)
  refine lv_iinc (v := 4) (lv' := [(2, .int 4), (0, .ref h1), (1, .ref h2)]) hX hB dX8_copyAll_20 hl (k := 0) rfl (by decide) (by decide) rfl (fun ls hl => ?_)
  refine lv_goto (tgt := 2) hX hB dX8_copyAll_23 (by decide) ?_
  refine lv_iload_n hX hB dX8_copyAll_2 rfl (lv_at hl 0 rfl) ?_
  refine lv_aload_n hX hB dX8_copyAll_3 rfl (lv_at hl 1 rfl) ?_
  refine z_alen C hP 0 1 rfl rfl (v := 4) (show Int32.ofNat 4 = 4 from by decide) dX8_copyAll_4 ?_
  refine lv_icmp_ge (tgt := 26) hX hB dX8_copyAll_5 (by decide) (fun _ => ?_) (fun c => absurd (by decide) c)
  exact z_vret' () (w' := q_X8_copyAll4 cy h1 h2 f g) rfl C hRT hP hD hS (Nat.le_of_ble_eq_true rfl) (Nat.le_of_ble_eq_true rfl) rfl dX8_copyAll_26

def n_X8_allTrue5 (f : Nat → Int32) : Int32 :=
  if f 0 = 0 then
    0
  else
    if f 1 = 0 then
      0
    else
      if f 2 = 0 then
        0
      else
        if f 3 = 0 then
          0
        else
          if f 4 = 0 then
            0
          else
            1
def q_X8_allTrue5 (cy : Nat → ClassId) (h1 : Nat) (f : Nat → Int32) (o : Int32) : va_W := [(h1, .inl (cy 1, 5, .inl (f)))]
theorem b_X8_allTrue5 (f : Nat → Int32) : (n_X8_allTrue5 f) = 0 ∨ (n_X8_allTrue5 f) = 1 := by
  simp only [n_X8_allTrue5]
  repeat (any_goals split)
  all_goals (first | exact Or.inl rfl | exact Or.inr rfl)
set_option maxHeartbeats 4000000 in
set_option maxRecDepth 100000 in
theorem c_X8_allTrue5 (l : Launch) {E : zEn} (hE : zEok E) (D : zG) (cy : Nat → ClassId) (h1 : Nat) (f : Nat → Int32)  (sz : Nat) : Met l yX8_allTrue (zws yX8_allTrue cX8_allTrue 5 (some .boolean)) { frames := 0, cells := 0, slots := 0, locals := 0 } (zPre E D cy [.ref h1] [(h1, .inl (cy 1, 5, .inl (f)))] sz) (zQi D ((q_X8_allTrue5 cy h1 f) (n_X8_allTrue5 f)) (va_A [(h1, .inl (cy 1, 5, .inl (f)))] sz) ((n_X8_allTrue5 f))) 0 0 (va_A [(h1, .inl (cy 1, 5, .inl (f)))] sz) := by
  refine z_of (Qc := fun A => zQi D ((q_X8_allTrue5 cy h1 f) (n_X8_allTrue5 f)) A ((n_X8_allTrue5 f))) (by decide +kernel) (Nat.le_of_ble_eq_true rfl) rfl ?_
  intro pG eN sT mI below meth cO A ls C hRT hnm hA hP hD hS hE0 hl
  have hX := C.x
  have hB := C.b
  refine lv_aload_n hX hB dX8_allTrue_0 rfl (lv_at hl 0 rfl) ?_
  refine lv_astore_n (lv' := [(1, .ref h1), (0, .ref h1)]) hX hB dX8_allTrue_1 rfl hl (by decide) rfl (fun ls hl => ?_)
  refine lv_aload_n hX hB dX8_allTrue_2 rfl (lv_at hl 0 rfl) ?_
  refine z_alen C hP 0 1 rfl rfl (v := 5) (show Int32.ofNat 5 = 5 from by decide) dX8_allTrue_3 ?_
  refine lv_istore_n (lv' := [(2, .int 5), (1, .ref h1), (0, .ref h1)]) hX hB dX8_allTrue_4 rfl hl (by decide) rfl (fun ls hl => ?_)
  refine lv_iconst (v := 0) hX hB dX8_allTrue_5 (by decide) ?_
  refine lv_istore_n (lv' := [(3, .int 0), (2, .int 5), (1, .ref h1), (0, .ref h1)]) hX hB dX8_allTrue_6 rfl hl (by decide) rfl (fun ls hl => ?_)
  refine lv_iload_n hX hB dX8_allTrue_7 rfl (lv_at hl 0 rfl) ?_
  refine lv_iload_n hX hB dX8_allTrue_8 rfl (lv_at hl 1 rfl) ?_
  refine lv_icmp_ge (tgt := 30) hX hB dX8_allTrue_9 (by decide) (fun c => absurd c (by decide)) (fun _ => ?_)
  refine lv_aload_n hX hB dX8_allTrue_12 rfl (lv_at hl 2 rfl) ?_
  refine lv_iload_n hX hB dX8_allTrue_13 rfl (lv_at hl 0 rfl) ?_
  refine z_zald C hP 0 rfl (k := 0) (zlit 0) (by decide) (by decide) (v := f 0) rfl dX8_allTrue_14 ?_
  refine lv_istore (lv' := [(4, .int (f 0)), (3, .int 0), (2, .int 5), (1, .ref h1), (0, .ref h1)]) hX hB dX8_allTrue_15 hl (by decide) rfl (fun ls hl => ?_)
  refine lv_iload hX hB dX8_allTrue_17 (lv_at hl 0 rfl) ?_
  refine lv_if_ne (tgt := 24) hX hB dX8_allTrue_19 (by decide) (fun c_1 => ?_) (fun c_1 => ?_)
  · refine lv_iinc (v := 1) (lv' := [(3, .int 1), (4, .int (f 0)), (2, .int 5), (1, .ref h1), (0, .ref h1)]) hX hB dX8_allTrue_24 hl (k := 1) rfl (by decide) (by decide) rfl (fun ls hl => ?_)
    refine lv_goto (tgt := 7) hX hB dX8_allTrue_27 (by decide) ?_
    refine lv_iload_n hX hB dX8_allTrue_7 rfl (lv_at hl 0 rfl) ?_
    refine lv_iload_n hX hB dX8_allTrue_8 rfl (lv_at hl 2 rfl) ?_
    refine lv_icmp_ge (tgt := 30) hX hB dX8_allTrue_9 (by decide) (fun c => absurd c (by decide)) (fun _ => ?_)
    refine lv_aload_n hX hB dX8_allTrue_12 rfl (lv_at hl 3 rfl) ?_
    refine lv_iload_n hX hB dX8_allTrue_13 rfl (lv_at hl 0 rfl) ?_
    refine z_zald C hP 0 rfl (k := 1) (zlit 1) (by decide) (by decide) (v := f 1) rfl dX8_allTrue_14 ?_
    refine lv_istore (lv' := [(4, .int (f 1)), (3, .int 1), (2, .int 5), (1, .ref h1), (0, .ref h1)]) hX hB dX8_allTrue_15 hl (by decide) rfl (fun ls hl => ?_)
    refine lv_iload hX hB dX8_allTrue_17 (lv_at hl 0 rfl) ?_
    refine lv_if_ne (tgt := 24) hX hB dX8_allTrue_19 (by decide) (fun c_2 => ?_) (fun c_2 => ?_)
    · refine lv_iinc (v := 2) (lv' := [(3, .int 2), (4, .int (f 1)), (2, .int 5), (1, .ref h1), (0, .ref h1)]) hX hB dX8_allTrue_24 hl (k := 1) rfl (by decide) (by decide) rfl (fun ls hl => ?_)
      refine lv_goto (tgt := 7) hX hB dX8_allTrue_27 (by decide) ?_
      refine lv_iload_n hX hB dX8_allTrue_7 rfl (lv_at hl 0 rfl) ?_
      refine lv_iload_n hX hB dX8_allTrue_8 rfl (lv_at hl 2 rfl) ?_
      refine lv_icmp_ge (tgt := 30) hX hB dX8_allTrue_9 (by decide) (fun c => absurd c (by decide)) (fun _ => ?_)
      refine lv_aload_n hX hB dX8_allTrue_12 rfl (lv_at hl 3 rfl) ?_
      refine lv_iload_n hX hB dX8_allTrue_13 rfl (lv_at hl 0 rfl) ?_
      refine z_zald C hP 0 rfl (k := 2) (zlit 2) (by decide) (by decide) (v := f 2) rfl dX8_allTrue_14 ?_
      refine lv_istore (lv' := [(4, .int (f 2)), (3, .int 2), (2, .int 5), (1, .ref h1), (0, .ref h1)]) hX hB dX8_allTrue_15 hl (by decide) rfl (fun ls hl => ?_)
      refine lv_iload hX hB dX8_allTrue_17 (lv_at hl 0 rfl) ?_
      refine lv_if_ne (tgt := 24) hX hB dX8_allTrue_19 (by decide) (fun c_3 => ?_) (fun c_3 => ?_)
      · refine lv_iinc (v := 3) (lv' := [(3, .int 3), (4, .int (f 2)), (2, .int 5), (1, .ref h1), (0, .ref h1)]) hX hB dX8_allTrue_24 hl (k := 1) rfl (by decide) (by decide) rfl (fun ls hl => ?_)
        refine lv_goto (tgt := 7) hX hB dX8_allTrue_27 (by decide) ?_
        refine lv_iload_n hX hB dX8_allTrue_7 rfl (lv_at hl 0 rfl) ?_
        refine lv_iload_n hX hB dX8_allTrue_8 rfl (lv_at hl 2 rfl) ?_
        refine lv_icmp_ge (tgt := 30) hX hB dX8_allTrue_9 (by decide) (fun c => absurd c (by decide)) (fun _ => ?_)
        refine lv_aload_n hX hB dX8_allTrue_12 rfl (lv_at hl 3 rfl) ?_
        refine lv_iload_n hX hB dX8_allTrue_13 rfl (lv_at hl 0 rfl) ?_
        refine z_zald C hP 0 rfl (k := 3) (zlit 3) (by decide) (by decide) (v := f 3) rfl dX8_allTrue_14 ?_
        refine lv_istore (lv' := [(4, .int (f 3)), (3, .int 3), (2, .int 5), (1, .ref h1), (0, .ref h1)]) hX hB dX8_allTrue_15 hl (by decide) rfl (fun ls hl => ?_)
        refine lv_iload hX hB dX8_allTrue_17 (lv_at hl 0 rfl) ?_
        refine lv_if_ne (tgt := 24) hX hB dX8_allTrue_19 (by decide) (fun c_4 => ?_) (fun c_4 => ?_)
        · refine lv_iinc (v := 4) (lv' := [(3, .int 4), (4, .int (f 3)), (2, .int 5), (1, .ref h1), (0, .ref h1)]) hX hB dX8_allTrue_24 hl (k := 1) rfl (by decide) (by decide) rfl (fun ls hl => ?_)
          refine lv_goto (tgt := 7) hX hB dX8_allTrue_27 (by decide) ?_
          refine lv_iload_n hX hB dX8_allTrue_7 rfl (lv_at hl 0 rfl) ?_
          refine lv_iload_n hX hB dX8_allTrue_8 rfl (lv_at hl 2 rfl) ?_
          refine lv_icmp_ge (tgt := 30) hX hB dX8_allTrue_9 (by decide) (fun c => absurd c (by decide)) (fun _ => ?_)
          refine lv_aload_n hX hB dX8_allTrue_12 rfl (lv_at hl 3 rfl) ?_
          refine lv_iload_n hX hB dX8_allTrue_13 rfl (lv_at hl 0 rfl) ?_
          refine z_zald C hP 0 rfl (k := 4) (zlit 4) (by decide) (by decide) (v := f 4) rfl dX8_allTrue_14 ?_
          refine lv_istore (lv' := [(4, .int (f 4)), (3, .int 4), (2, .int 5), (1, .ref h1), (0, .ref h1)]) hX hB dX8_allTrue_15 hl (by decide) rfl (fun ls hl => ?_)
          refine lv_iload hX hB dX8_allTrue_17 (lv_at hl 0 rfl) ?_
          refine lv_if_ne (tgt := 24) hX hB dX8_allTrue_19 (by decide) (fun c_5 => ?_) (fun c_5 => ?_)
          · refine lv_iinc (v := 5) (lv' := [(3, .int 5), (4, .int (f 4)), (2, .int 5), (1, .ref h1), (0, .ref h1)]) hX hB dX8_allTrue_24 hl (k := 1) rfl (by decide) (by decide) rfl (fun ls hl => ?_)
            refine lv_goto (tgt := 7) hX hB dX8_allTrue_27 (by decide) ?_
            refine lv_iload_n hX hB dX8_allTrue_7 rfl (lv_at hl 0 rfl) ?_
            refine lv_iload_n hX hB dX8_allTrue_8 rfl (lv_at hl 2 rfl) ?_
            refine lv_icmp_ge (tgt := 30) hX hB dX8_allTrue_9 (by decide) (fun _ => ?_) (fun c => absurd (by decide) c)
            refine lv_iconst (v := 1) hX hB dX8_allTrue_30 (by decide) ?_
            exact z_zret' 1 (w' := q_X8_allTrue5 cy h1 f) (r0 := (fun (o : Int32) => o)) (by simp only [n_X8_allTrue5, if_neg c_1, if_neg c_2, if_neg c_3, if_neg c_4, if_neg c_5]) C hRT (zb01 (Or.inr rfl)) hP hD hS (Nat.le_of_ble_eq_true rfl) (Nat.le_of_ble_eq_true rfl) rfl rfl dX8_allTrue_31
          · refine lv_iconst (v := 0) hX hB dX8_allTrue_22 (by decide) ?_
            exact z_zret' 0 (w' := q_X8_allTrue5 cy h1 f) (r0 := (fun (o : Int32) => o)) (by simp only [n_X8_allTrue5, if_neg c_1, if_neg c_2, if_neg c_3, if_neg c_4, if_pos c_5]) C hRT (zb01 (Or.inl rfl)) hP hD hS (Nat.le_of_ble_eq_true rfl) (Nat.le_of_ble_eq_true rfl) rfl rfl dX8_allTrue_23
        · refine lv_iconst (v := 0) hX hB dX8_allTrue_22 (by decide) ?_
          exact z_zret' 0 (w' := q_X8_allTrue5 cy h1 f) (r0 := (fun (o : Int32) => o)) (by simp only [n_X8_allTrue5, if_neg c_1, if_neg c_2, if_neg c_3, if_pos c_4]) C hRT (zb01 (Or.inl rfl)) hP hD hS (Nat.le_of_ble_eq_true rfl) (Nat.le_of_ble_eq_true rfl) rfl rfl dX8_allTrue_23
      · refine lv_iconst (v := 0) hX hB dX8_allTrue_22 (by decide) ?_
        exact z_zret' 0 (w' := q_X8_allTrue5 cy h1 f) (r0 := (fun (o : Int32) => o)) (by simp only [n_X8_allTrue5, if_neg c_1, if_neg c_2, if_pos c_3]) C hRT (zb01 (Or.inl rfl)) hP hD hS (Nat.le_of_ble_eq_true rfl) (Nat.le_of_ble_eq_true rfl) rfl rfl dX8_allTrue_23
    · refine lv_iconst (v := 0) hX hB dX8_allTrue_22 (by decide) ?_
      exact z_zret' 0 (w' := q_X8_allTrue5 cy h1 f) (r0 := (fun (o : Int32) => o)) (by simp only [n_X8_allTrue5, if_neg c_1, if_pos c_2]) C hRT (zb01 (Or.inl rfl)) hP hD hS (Nat.le_of_ble_eq_true rfl) (Nat.le_of_ble_eq_true rfl) rfl rfl dX8_allTrue_23
  · refine lv_iconst (v := 0) hX hB dX8_allTrue_22 (by decide) ?_
    exact z_zret' 0 (w' := q_X8_allTrue5 cy h1 f) (r0 := (fun (o : Int32) => o)) (by simp only [n_X8_allTrue5, if_pos c_1]) C hRT (zb01 (Or.inl rfl)) hP hD hS (Nat.le_of_ble_eq_true rfl) (Nat.le_of_ble_eq_true rfl) rfl rfl dX8_allTrue_23

def q_X8_clearAll5 (cy : Nat → ClassId) (h1 : Nat) (f : Nat → Int32) (o : Unit) : va_W := [(h1, .inl (cy 1, 5, .inl (upd (upd (upd (upd (upd f 0 0) 1 0) 2 0) 3 0) 4 0)))]
set_option maxHeartbeats 4000000 in
set_option maxRecDepth 100000 in
theorem c_X8_clearAll5 (l : Launch) {E : zEn} (hE : zEok E) (D : zG) (cy : Nat → ClassId) (h1 : Nat) (f : Nat → Int32)  (sz : Nat) : Met l yX8_clearAll (zws yX8_clearAll cX8_clearAll 2 none) { frames := 0, cells := 0, slots := 0, locals := 0 } (zPre E D cy [.ref h1] [(h1, .inl (cy 1, 5, .inl (f)))] sz) (zQv D ((q_X8_clearAll5 cy h1 f) ()) (va_A [(h1, .inl (cy 1, 5, .inl (f)))] sz)) 0 0 (va_A [(h1, .inl (cy 1, 5, .inl (f)))] sz) := by
  refine z_of (Qc := fun A => zQv D ((q_X8_clearAll5 cy h1 f) ()) A) (by decide +kernel) (Nat.le_of_ble_eq_true rfl) rfl ?_
  intro pG eN sT mI below meth cO A ls C hRT hnm hA hP hD hS hE0 hl
  have hX := C.x
  have hB := C.b
  refine lv_iconst (v := 0) hX hB dX8_clearAll_0 (by decide) ?_
  refine lv_istore_n (lv' := [(1, .int 0), (0, .ref h1)]) hX hB dX8_clearAll_1 rfl hl (by decide) rfl (fun ls hl => ?_)
  refine lv_iload_n hX hB dX8_clearAll_2 rfl (lv_at hl 0 rfl) ?_
  refine lv_aload_n hX hB dX8_clearAll_3 rfl (lv_at hl 1 rfl) ?_
  refine z_alen C hP 0 1 rfl rfl (v := 5) (show Int32.ofNat 5 = 5 from by decide) dX8_clearAll_4 ?_
  refine lv_icmp_ge (tgt := 18) hX hB dX8_clearAll_5 (by decide) (fun c => absurd c (by decide)) (fun _ => ?_)
  refine lv_aload_n hX hB dX8_clearAll_8 rfl (lv_at hl 1 rfl) ?_
  refine lv_iload_n hX hB dX8_clearAll_9 rfl (lv_at hl 0 rfl) ?_
  refine lv_iconst (v := 0) hX hB dX8_clearAll_10 (by decide) ?_
  refine z_zast C hP hD hS 0 rfl (k := 0) (zlit 0) (by decide) (by decide) (znar (Or.inl rfl)) (w' := [(h1, .inl (cy 1, 5, .inl (upd f 0 0)))]) rfl dX8_clearAll_11 (fun H locs hP hD hS => ?_)
  refine lv_iinc (v := 1) (lv' := [(1, .int 1), (0, .ref h1)]) hX hB dX8_clearAll_12 hl (k := 0) rfl (by decide) (by decide) rfl (fun ls hl => ?_)
  refine lv_goto (tgt := 2) hX hB dX8_clearAll_15 (by decide) ?_
  refine lv_iload_n hX hB dX8_clearAll_2 rfl (lv_at hl 0 rfl) ?_
  refine lv_aload_n hX hB dX8_clearAll_3 rfl (lv_at hl 1 rfl) ?_
  refine z_alen C hP 0 1 rfl rfl (v := 5) (show Int32.ofNat 5 = 5 from by decide) dX8_clearAll_4 ?_
  refine lv_icmp_ge (tgt := 18) hX hB dX8_clearAll_5 (by decide) (fun c => absurd c (by decide)) (fun _ => ?_)
  refine lv_aload_n hX hB dX8_clearAll_8 rfl (lv_at hl 1 rfl) ?_
  refine lv_iload_n hX hB dX8_clearAll_9 rfl (lv_at hl 0 rfl) ?_
  refine lv_iconst (v := 0) hX hB dX8_clearAll_10 (by decide) ?_
  refine z_zast C hP hD hS 0 rfl (k := 1) (zlit 1) (by decide) (by decide) (znar (Or.inl rfl)) (w' := [(h1, .inl (cy 1, 5, .inl (upd (upd f 0 0) 1 0)))]) rfl dX8_clearAll_11 (fun H locs hP hD hS => ?_)
  refine lv_iinc (v := 2) (lv' := [(1, .int 2), (0, .ref h1)]) hX hB dX8_clearAll_12 hl (k := 0) rfl (by decide) (by decide) rfl (fun ls hl => ?_)
  refine lv_goto (tgt := 2) hX hB dX8_clearAll_15 (by decide) ?_
  refine lv_iload_n hX hB dX8_clearAll_2 rfl (lv_at hl 0 rfl) ?_
  refine lv_aload_n hX hB dX8_clearAll_3 rfl (lv_at hl 1 rfl) ?_
  refine z_alen C hP 0 1 rfl rfl (v := 5) (show Int32.ofNat 5 = 5 from by decide) dX8_clearAll_4 ?_
  refine lv_icmp_ge (tgt := 18) hX hB dX8_clearAll_5 (by decide) (fun c => absurd c (by decide)) (fun _ => ?_)
  refine lv_aload_n hX hB dX8_clearAll_8 rfl (lv_at hl 1 rfl) ?_
  refine lv_iload_n hX hB dX8_clearAll_9 rfl (lv_at hl 0 rfl) ?_
  refine lv_iconst (v := 0) hX hB dX8_clearAll_10 (by decide) ?_
  refine z_zast C hP hD hS 0 rfl (k := 2) (zlit 2) (by decide) (by decide) (znar (Or.inl rfl)) (w' := [(h1, .inl (cy 1, 5, .inl (upd (upd (upd f 0 0) 1 0) 2 0)))]) rfl dX8_clearAll_11 (fun H locs hP hD hS => ?_)
  refine lv_iinc (v := 3) (lv' := [(1, .int 3), (0, .ref h1)]) hX hB dX8_clearAll_12 hl (k := 0) rfl (by decide) (by decide) rfl (fun ls hl => ?_)
  refine lv_goto (tgt := 2) hX hB dX8_clearAll_15 (by decide) ?_
  refine lv_iload_n hX hB dX8_clearAll_2 rfl (lv_at hl 0 rfl) ?_
  refine lv_aload_n hX hB dX8_clearAll_3 rfl (lv_at hl 1 rfl) ?_
  refine z_alen C hP 0 1 rfl rfl (v := 5) (show Int32.ofNat 5 = 5 from by decide) dX8_clearAll_4 ?_
  refine lv_icmp_ge (tgt := 18) hX hB dX8_clearAll_5 (by decide) (fun c => absurd c (by decide)) (fun _ => ?_)
  refine lv_aload_n hX hB dX8_clearAll_8 rfl (lv_at hl 1 rfl) ?_
  refine lv_iload_n hX hB dX8_clearAll_9 rfl (lv_at hl 0 rfl) ?_
  refine lv_iconst (v := 0) hX hB dX8_clearAll_10 (by decide) ?_
  refine z_zast C hP hD hS 0 rfl (k := 3) (zlit 3) (by decide) (by decide) (znar (Or.inl rfl)) (w' := [(h1, .inl (cy 1, 5, .inl (upd (upd (upd (upd f 0 0) 1 0) 2 0) 3 0)))]) rfl dX8_clearAll_11 (fun H locs hP hD hS => ?_)
  refine lv_iinc (v := 4) (lv' := [(1, .int 4), (0, .ref h1)]) hX hB dX8_clearAll_12 hl (k := 0) rfl (by decide) (by decide) rfl (fun ls hl => ?_)
  refine lv_goto (tgt := 2) hX hB dX8_clearAll_15 (by decide) ?_
  refine lv_iload_n hX hB dX8_clearAll_2 rfl (lv_at hl 0 rfl) ?_
  refine lv_aload_n hX hB dX8_clearAll_3 rfl (lv_at hl 1 rfl) ?_
  refine z_alen C hP 0 1 rfl rfl (v := 5) (show Int32.ofNat 5 = 5 from by decide) dX8_clearAll_4 ?_
  refine lv_icmp_ge (tgt := 18) hX hB dX8_clearAll_5 (by decide) (fun c => absurd c (by decide)) (fun _ => ?_)
  refine lv_aload_n hX hB dX8_clearAll_8 rfl (lv_at hl 1 rfl) ?_
  refine lv_iload_n hX hB dX8_clearAll_9 rfl (lv_at hl 0 rfl) ?_
  refine lv_iconst (v := 0) hX hB dX8_clearAll_10 (by decide) ?_
  refine z_zast C hP hD hS 0 rfl (k := 4) (zlit 4) (by decide) (by decide) (znar (Or.inl rfl)) (w' := [(h1, .inl (cy 1, 5, .inl (upd (upd (upd (upd (upd f 0 0) 1 0) 2 0) 3 0) 4 0)))]) rfl dX8_clearAll_11 (fun H locs hP hD hS => ?_)
  refine lv_iinc (v := 5) (lv' := [(1, .int 5), (0, .ref h1)]) hX hB dX8_clearAll_12 hl (k := 0) rfl (by decide) (by decide) rfl (fun ls hl => ?_)
  refine lv_goto (tgt := 2) hX hB dX8_clearAll_15 (by decide) ?_
  refine lv_iload_n hX hB dX8_clearAll_2 rfl (lv_at hl 0 rfl) ?_
  refine lv_aload_n hX hB dX8_clearAll_3 rfl (lv_at hl 1 rfl) ?_
  refine z_alen C hP 0 1 rfl rfl (v := 5) (show Int32.ofNat 5 = 5 from by decide) dX8_clearAll_4 ?_
  refine lv_icmp_ge (tgt := 18) hX hB dX8_clearAll_5 (by decide) (fun _ => ?_) (fun c => absurd (by decide) c)
  exact z_vret' () (w' := q_X8_clearAll5 cy h1 f) rfl C hRT hP hD hS (Nat.le_of_ble_eq_true rfl) (Nat.le_of_ble_eq_true rfl) rfl dX8_clearAll_18

def q_X8_copyAll5 (cy : Nat → ClassId) (h1 : Nat) (h2 : Nat) (f : Nat → Int32) (g : Nat → Int32) (o : Unit) : va_W := [(h1, .inl (cy 1, 5, .inl (f))), (h2, .inl (cy 1, 5, .inl (upd (upd (upd (upd (upd g 0 (f 0)) 1 (f 1)) 2 (f 2)) 3 (f 3)) 4 (f 4))))]
set_option maxHeartbeats 4000000 in
set_option maxRecDepth 100000 in
theorem c_X8_copyAll5 (l : Launch) {E : zEn} (hE : zEok E) (D : zG) (cy : Nat → ClassId) (h1 h2 : Nat) (f : Nat → Int32) (g : Nat → Int32) (hzf : zbl f 5) (sz : Nat) : Met l yX8_copyAll (zws yX8_copyAll cX8_copyAll 3 none) { frames := 0, cells := 0, slots := 0, locals := 0 } (zPre E D cy [.ref h1, .ref h2] [(h1, .inl (cy 1, 5, .inl (f))), (h2, .inl (cy 1, 5, .inl (g)))] sz) (zQv D ((q_X8_copyAll5 cy h1 h2 f g) ()) (va_A [(h1, .inl (cy 1, 5, .inl (f))), (h2, .inl (cy 1, 5, .inl (g)))] sz)) 0 0 (va_A [(h1, .inl (cy 1, 5, .inl (f))), (h2, .inl (cy 1, 5, .inl (g)))] sz) := by
  refine z_of (Qc := fun A => zQv D ((q_X8_copyAll5 cy h1 h2 f g) ()) A) (by decide +kernel) (Nat.le_of_ble_eq_true rfl) rfl ?_
  intro pG eN sT mI below meth cO A ls C hRT hnm hA hP hD hS hE0 hl
  have hX := C.x
  have hB := C.b
  refine lv_iconst (v := 0) hX hB dX8_copyAll_0 (by decide) ?_
  refine lv_istore_n (lv' := [(2, .int 0), (0, .ref h1), (1, .ref h2)]) hX hB dX8_copyAll_1 rfl hl (by decide) rfl (fun ls hl => ?_)
  refine lv_iload_n hX hB dX8_copyAll_2 rfl (lv_at hl 0 rfl) ?_
  refine lv_aload_n hX hB dX8_copyAll_3 rfl (lv_at hl 1 rfl) ?_
  refine z_alen C hP 0 1 rfl rfl (v := 5) (show Int32.ofNat 5 = 5 from by decide) dX8_copyAll_4 ?_
  refine lv_icmp_ge (tgt := 26) hX hB dX8_copyAll_5 (by decide) (fun c => absurd c (by decide)) (fun _ => ?_)
  refine lv_iload_n hX hB dX8_copyAll_8 rfl (lv_at hl 0 rfl) ?_
  refine lv_aload_n hX hB dX8_copyAll_9 rfl (lv_at hl 2 rfl) ?_
  refine z_alen C hP 1 1 rfl rfl (v := 5) (show Int32.ofNat 5 = 5 from by decide) dX8_copyAll_10 ?_
  refine lv_icmp_ge (tgt := 26) hX hB dX8_copyAll_11 (by decide) (fun c => absurd c (by decide)) (fun _ => ?_)
  refine lv_aload_n hX hB dX8_copyAll_14 rfl (lv_at hl 2 rfl) ?_
  refine lv_iload_n hX hB dX8_copyAll_15 rfl (lv_at hl 0 rfl) ?_
  refine lv_aload_n hX hB dX8_copyAll_16 rfl (lv_at hl 1 rfl) ?_
  refine lv_iload_n hX hB dX8_copyAll_17 rfl (lv_at hl 0 rfl) ?_
  refine z_zald C hP 0 rfl (k := 0) (zlit 0) (by decide) (by decide) (v := f 0) rfl dX8_copyAll_18 ?_
  refine z_zast C hP hD hS 1 rfl (k := 0) (zlit 0) (by decide) (by decide) (znar (hzf 0 (by decide))) (w' := [(h1, .inl (cy 1, 5, .inl (f))), (h2, .inl (cy 1, 5, .inl (upd g 0 (f 0))))]) rfl dX8_copyAll_19 (fun H locs hP hD hS => ?_)
  refine lv_iinc (v := 1) (lv' := [(2, .int 1), (0, .ref h1), (1, .ref h2)]) hX hB dX8_copyAll_20 hl (k := 0) rfl (by decide) (by decide) rfl (fun ls hl => ?_)
  refine lv_goto (tgt := 2) hX hB dX8_copyAll_23 (by decide) ?_
  refine lv_iload_n hX hB dX8_copyAll_2 rfl (lv_at hl 0 rfl) ?_
  refine lv_aload_n hX hB dX8_copyAll_3 rfl (lv_at hl 1 rfl) ?_
  refine z_alen C hP 0 1 rfl rfl (v := 5) (show Int32.ofNat 5 = 5 from by decide) dX8_copyAll_4 ?_
  refine lv_icmp_ge (tgt := 26) hX hB dX8_copyAll_5 (by decide) (fun c => absurd c (by decide)) (fun _ => ?_)
  refine lv_iload_n hX hB dX8_copyAll_8 rfl (lv_at hl 0 rfl) ?_
  refine lv_aload_n hX hB dX8_copyAll_9 rfl (lv_at hl 2 rfl) ?_
  refine z_alen C hP 1 1 rfl rfl (v := 5) (show Int32.ofNat 5 = 5 from by decide) dX8_copyAll_10 ?_
  refine lv_icmp_ge (tgt := 26) hX hB dX8_copyAll_11 (by decide) (fun c => absurd c (by decide)) (fun _ => ?_)
  refine lv_aload_n hX hB dX8_copyAll_14 rfl (lv_at hl 2 rfl) ?_
  refine lv_iload_n hX hB dX8_copyAll_15 rfl (lv_at hl 0 rfl) ?_
  refine lv_aload_n hX hB dX8_copyAll_16 rfl (lv_at hl 1 rfl) ?_
  refine lv_iload_n hX hB dX8_copyAll_17 rfl (lv_at hl 0 rfl) ?_
  refine z_zald C hP 0 rfl (k := 1) (zlit 1) (by decide) (by decide) (v := f 1) rfl dX8_copyAll_18 ?_
  refine z_zast C hP hD hS 1 rfl (k := 1) (zlit 1) (by decide) (by decide) (znar (hzf 1 (by decide))) (w' := [(h1, .inl (cy 1, 5, .inl (f))), (h2, .inl (cy 1, 5, .inl (upd (upd g 0 (f 0)) 1 (f 1))))]) rfl dX8_copyAll_19 (fun H locs hP hD hS => ?_)
  refine lv_iinc (v := 2) (lv' := [(2, .int 2), (0, .ref h1), (1, .ref h2)]) hX hB dX8_copyAll_20 hl (k := 0) rfl (by decide) (by decide) rfl (fun ls hl => ?_)
  refine lv_goto (tgt := 2) hX hB dX8_copyAll_23 (by decide) ?_
  refine lv_iload_n hX hB dX8_copyAll_2 rfl (lv_at hl 0 rfl) ?_
  refine lv_aload_n hX hB dX8_copyAll_3 rfl (lv_at hl 1 rfl) ?_
  refine z_alen C hP 0 1 rfl rfl (v := 5) (show Int32.ofNat 5 = 5 from by decide) dX8_copyAll_4 ?_
  refine lv_icmp_ge (tgt := 26) hX hB dX8_copyAll_5 (by decide) (fun c => absurd c (by decide)) (fun _ => ?_)
  refine lv_iload_n hX hB dX8_copyAll_8 rfl (lv_at hl 0 rfl) ?_
  refine lv_aload_n hX hB dX8_copyAll_9 rfl (lv_at hl 2 rfl) ?_
  refine z_alen C hP 1 1 rfl rfl (v := 5) (show Int32.ofNat 5 = 5 from by decide) dX8_copyAll_10 ?_
  refine lv_icmp_ge (tgt := 26) hX hB dX8_copyAll_11 (by decide) (fun c => absurd c (by decide)) (fun _ => ?_)
  refine lv_aload_n hX hB dX8_copyAll_14 rfl (lv_at hl 2 rfl) ?_
  refine lv_iload_n hX hB dX8_copyAll_15 rfl (lv_at hl 0 rfl) ?_
  refine lv_aload_n hX hB dX8_copyAll_16 rfl (lv_at hl 1 rfl) ?_
  refine lv_iload_n hX hB dX8_copyAll_17 rfl (lv_at hl 0 rfl) ?_
  refine z_zald C hP 0 rfl (k := 2) (zlit 2) (by decide) (by decide) (v := f 2) rfl dX8_copyAll_18 ?_
  refine z_zast C hP hD hS 1 rfl (k := 2) (zlit 2) (by decide) (by decide) (znar (hzf 2 (by decide))) (w' := [(h1, .inl (cy 1, 5, .inl (f))), (h2, .inl (cy 1, 5, .inl (upd (upd (upd g 0 (f 0)) 1 (f 1)) 2 (f 2))))]) rfl dX8_copyAll_19 (fun H locs hP hD hS => ?_)
  refine lv_iinc (v := 3) (lv' := [(2, .int 3), (0, .ref h1), (1, .ref h2)]) hX hB dX8_copyAll_20 hl (k := 0) rfl (by decide) (by decide) rfl (fun ls hl => ?_)
  refine lv_goto (tgt := 2) hX hB dX8_copyAll_23 (by decide) ?_
  refine lv_iload_n hX hB dX8_copyAll_2 rfl (lv_at hl 0 rfl) ?_
  refine lv_aload_n hX hB dX8_copyAll_3 rfl (lv_at hl 1 rfl) ?_
  refine z_alen C hP 0 1 rfl rfl (v := 5) (show Int32.ofNat 5 = 5 from by decide) dX8_copyAll_4 ?_
  refine lv_icmp_ge (tgt := 26) hX hB dX8_copyAll_5 (by decide) (fun c => absurd c (by decide)) (fun _ => ?_)
  refine lv_iload_n hX hB dX8_copyAll_8 rfl (lv_at hl 0 rfl) ?_
  refine lv_aload_n hX hB dX8_copyAll_9 rfl (lv_at hl 2 rfl) ?_
  refine z_alen C hP 1 1 rfl rfl (v := 5) (show Int32.ofNat 5 = 5 from by decide) dX8_copyAll_10 ?_
  refine lv_icmp_ge (tgt := 26) hX hB dX8_copyAll_11 (by decide) (fun c => absurd c (by decide)) (fun _ => ?_)
  refine lv_aload_n hX hB dX8_copyAll_14 rfl (lv_at hl 2 rfl) ?_
  refine lv_iload_n hX hB dX8_copyAll_15 rfl (lv_at hl 0 rfl) ?_
  refine lv_aload_n hX hB dX8_copyAll_16 rfl (lv_at hl 1 rfl) ?_
  refine lv_iload_n hX hB dX8_copyAll_17 rfl (lv_at hl 0 rfl) ?_
  refine z_zald C hP 0 rfl (k := 3) (zlit 3) (by decide) (by decide) (v := f 3) rfl dX8_copyAll_18 ?_
  refine z_zast C hP hD hS 1 rfl (k := 3) (zlit 3) (by decide) (by decide) (znar (hzf 3 (by decide))) (w' := [(h1, .inl (cy 1, 5, .inl (f))), (h2, .inl (cy 1, 5, .inl (upd (upd (upd (upd g 0 (f 0)) 1 (f 1)) 2 (f 2)) 3 (f 3))))]) rfl dX8_copyAll_19 (fun H locs hP hD hS => ?_)
  refine lv_iinc (v := 4) (lv' := [(2, .int 4), (0, .ref h1), (1, .ref h2)]) hX hB dX8_copyAll_20 hl (k := 0) rfl (by decide) (by decide) rfl (fun ls hl => ?_)
  refine lv_goto (tgt := 2) hX hB dX8_copyAll_23 (by decide) ?_
  refine lv_iload_n hX hB dX8_copyAll_2 rfl (lv_at hl 0 rfl) ?_
  refine lv_aload_n hX hB dX8_copyAll_3 rfl (lv_at hl 1 rfl) ?_
  refine z_alen C hP 0 1 rfl rfl (v := 5) (show Int32.ofNat 5 = 5 from by decide) dX8_copyAll_4 ?_
  refine lv_icmp_ge (tgt := 26) hX hB dX8_copyAll_5 (by decide) (fun c => absurd c (by decide)) (fun _ => ?_)
  refine lv_iload_n hX hB dX8_copyAll_8 rfl (lv_at hl 0 rfl) ?_
  refine lv_aload_n hX hB dX8_copyAll_9 rfl (lv_at hl 2 rfl) ?_
  refine z_alen C hP 1 1 rfl rfl (v := 5) (show Int32.ofNat 5 = 5 from by decide) dX8_copyAll_10 ?_
  refine lv_icmp_ge (tgt := 26) hX hB dX8_copyAll_11 (by decide) (fun c => absurd c (by decide)) (fun _ => ?_)
  refine lv_aload_n hX hB dX8_copyAll_14 rfl (lv_at hl 2 rfl) ?_
  refine lv_iload_n hX hB dX8_copyAll_15 rfl (lv_at hl 0 rfl) ?_
  refine lv_aload_n hX hB dX8_copyAll_16 rfl (lv_at hl 1 rfl) ?_
  refine lv_iload_n hX hB dX8_copyAll_17 rfl (lv_at hl 0 rfl) ?_
  refine z_zald C hP 0 rfl (k := 4) (zlit 4) (by decide) (by decide) (v := f 4) rfl dX8_copyAll_18 ?_
  refine z_zast C hP hD hS 1 rfl (k := 4) (zlit 4) (by decide) (by decide) (znar (hzf 4 (by decide))) (w' := [(h1, .inl (cy 1, 5, .inl (f))), (h2, .inl (cy 1, 5, .inl (upd (upd (upd (upd (upd g 0 (f 0)) 1 (f 1)) 2 (f 2)) 3 (f 3)) 4 (f 4))))]) rfl dX8_copyAll_19 (fun H locs hP hD hS => ?_)
  refine lv_iinc (v := 5) (lv' := [(2, .int 5), (0, .ref h1), (1, .ref h2)]) hX hB dX8_copyAll_20 hl (k := 0) rfl (by decide) (by decide) rfl (fun ls hl => ?_)
  refine lv_goto (tgt := 2) hX hB dX8_copyAll_23 (by decide) ?_
  refine lv_iload_n hX hB dX8_copyAll_2 rfl (lv_at hl 0 rfl) ?_
  refine lv_aload_n hX hB dX8_copyAll_3 rfl (lv_at hl 1 rfl) ?_
  refine z_alen C hP 0 1 rfl rfl (v := 5) (show Int32.ofNat 5 = 5 from by decide) dX8_copyAll_4 ?_
  refine lv_icmp_ge (tgt := 26) hX hB dX8_copyAll_5 (by decide) (fun _ => ?_) (fun c => absurd (by decide) c)
  exact z_vret' () (w' := q_X8_copyAll5 cy h1 h2 f g) rfl C hRT hP hD hS (Nat.le_of_ble_eq_true rfl) (Nat.le_of_ble_eq_true rfl) rfl dX8_copyAll_26

def q_X1_init (cy : Nat → ClassId) (h0 : Nat) (a : Nat → Nat) : va_W := [(h0, .inr (4, [.int 1, .ref ((a 0)), .ref ((a 1)), .ref ((a 2)), .int 0, .int 0, .int 0, .int 0, .int 0, .int 0, .int 0])), ((a 0), .inl (cy 1, 4, .inl (fun _ => 0))), ((a 1), .inl (cy 0, 3, .inl (fun _ => 0))), ((a 2), .inl (cy 1, 5, .inl (fun _ => 0)))]
set_option maxHeartbeats 8000000 in
set_option maxRecDepth 100000 in
theorem c_X1_init (l : Launch) {E : zEn} (hE : zEok E) (D : zG) (cy : Nat → ClassId) (h0 : Nat) (sz : Nat) : Met l yX1_init (zws yX1_init cX1_init 1 none) { frames := 1, cells := 3, slots := 12, locals := 12 } (zPre E D cy [.ref h0] [(h0, .inr (4, [.int 0, .null, .null, .null, .int 0, .int 0, .int 0, .int 0, .int 0, .int 0, .int 0]))] sz) (zQx D (q_X1_init cy h0) (va_A [(h0, .inr (4, [.int 0, .null, .null, .null, .int 0, .int 0, .int 0, .int 0, .int 0, .int 0, .int 0]))] sz)) 3 12 (va_A [(h0, .inr (4, [.int 0, .null, .null, .null, .int 0, .int 0, .int 0, .int 0, .int 0, .int 0, .int 0]))] sz) := by
  refine z_of (Qc := fun A => zQx D (q_X1_init cy h0) A) (by decide +kernel) (Nat.le_of_ble_eq_true rfl) rfl ?_
  intro pG eN sT mI below meth cO A ls C hRT hnm hA hP hD hS hE0 hl
  have hX := C.x
  have hB := C.b
  refine lv_aload_n hX hB dX1_init_0 rfl (lv_at hl 0 rfl) ?_
  refine W.objInit hX hB C.o (C.ts _ zm53) (C.ts _ zm12) (C.ts _ zm13) rfl (by rw [C.2.2.1]; exact hl.1) rfl dX1_init_1 (Nat.le_of_ble_eq_true rfl) (Nat.le_of_ble_eq_true rfl) ?_
  refine W.eq (g2 := F0 mI 4 ls []) rfl ?_
  refine lv_aload_n hX hB dX1_init_4 rfl (lv_at hl 0 rfl) ?_
  refine lv_iconst (v := 1) hX hB dX1_init_5 (by decide) ?_
  refine fp_X1_9 C hP hD hS 0 rfl rfl rfl (Nat.le_of_ble_eq_true rfl) (w' := [(h0, .inr (4, [.int 1, .null, .null, .null, .int 0, .int 0, .int 0, .int 0, .int 0, .int 0, .int 0]))]) rfl dX1_init_6 (fun H locs hP hD hS => ?_)
  refine lv_aload_n hX hB dX1_init_9 rfl (lv_at hl 0 rfl) ?_
  refine lv_iconst (v := 4) hX hB dX1_init_10 (by decide) ?_
  refine z_newZ C hP hD hS hA 4 (by decide) (by decide) (by decide) ⟨Nat.le_of_ble_eq_true rfl, Nat.le_of_ble_eq_true rfl⟩ dX1_init_11 (fun q_1 H hP hD hS => ?_)
  refine fpF_X1_15 C hnm hP hD hS 0 rfl rfl rfl (Nat.le_of_ble_eq_true rfl) (w' := [(h0, .inr (4, [.int 1, .ref q_1, .null, .null, .int 0, .int 0, .int 0, .int 0, .int 0, .int 0, .int 0])), (q_1, .inl (cy 1, 4, .inl (fun _ => 0)))]) rfl dX1_init_13 (fun H locs hP hD hS => ?_)
  refine lv_aload_n hX hB dX1_init_16 rfl (lv_at hl 0 rfl) ?_
  refine lv_iconst (v := 3) hX hB dX1_init_17 (by decide) ?_
  refine z_newI C hP hD hS hA 3 (by decide) (by decide) (by decide) ⟨Nat.le_of_ble_eq_true rfl, Nat.le_of_ble_eq_true rfl⟩ dX1_init_18 (fun q_2 H hP hD hS => ?_)
  refine fpF_X1_19 C hnm hP hD hS 0 rfl rfl rfl (Nat.le_of_ble_eq_true rfl) (w' := [(h0, .inr (4, [.int 1, .ref q_1, .ref q_2, .null, .int 0, .int 0, .int 0, .int 0, .int 0, .int 0, .int 0])), (q_1, .inl (cy 1, 4, .inl (fun _ => 0))), (q_2, .inl (cy 0, 3, .inl (fun _ => 0)))]) rfl dX1_init_20 (fun H locs hP hD hS => ?_)
  refine lv_aload_n hX hB dX1_init_23 rfl (lv_at hl 0 rfl) ?_
  refine lv_iconst (v := 5) hX hB dX1_init_24 (by decide) ?_
  refine z_newZ C hP hD hS hA 5 (by decide) (by decide) (by decide) ⟨Nat.le_of_ble_eq_true rfl, Nat.le_of_ble_eq_true rfl⟩ dX1_init_25 (fun q_3 H hP hD hS => ?_)
  refine fpF_X1_23 C hnm hP hD hS 0 rfl rfl rfl (Nat.le_of_ble_eq_true rfl) (w' := [(h0, .inr (4, [.int 1, .ref q_1, .ref q_2, .ref q_3, .int 0, .int 0, .int 0, .int 0, .int 0, .int 0, .int 0])), (q_1, .inl (cy 1, 4, .inl (fun _ => 0))), (q_2, .inl (cy 0, 3, .inl (fun _ => 0))), (q_3, .inl (cy 1, 5, .inl (fun _ => 0)))]) rfl dX1_init_27 (fun H locs hP hD hS => ?_)
  exact z_vretx (zfa [q_1, q_2, q_3]) (w' := q_X1_init cy h0) C hRT hP hD hS (Nat.le_of_ble_eq_true rfl) (Nat.le_of_ble_eq_true rfl) rfl dX1_init_30

def n_X1_begin (fl : Nat → Int32) (fb : Nat → Int32) (fd : Nat → Int32) : Int32 × Int32 × Int32 × Int32 × Int32 × Int32 × Int32 × Int32 × (Nat → Int32) × (Nat → Int32) × (Nat → Int32) :=
  (1, 0, 0, 0, 0, 0, 0, 0, upd (upd (upd (upd fl 0 0) 1 0) 2 0) 3 0, upd (upd (upd fb 0 50) 1 50) 2 50, upd (upd (upd (upd (upd fd 0 0) 1 0) 2 0) 3 0) 4 0)
def q_X1_begin (cy : Nat → ClassId) (t0 : Nat) (t1 : Nat) (t2 : Nat) (t3 : Nat)  (o : Int32 × Int32 × Int32 × Int32 × Int32 × Int32 × Int32 × Int32 × (Nat → Int32) × (Nat → Int32) × (Nat → Int32)) : va_W := [(t0, .inr (4, [.int o.1, .ref t1, .ref t2, .ref t3, .int o.2.1, .int o.2.2.1, .int o.2.2.2.1, .int o.2.2.2.2.1, .int o.2.2.2.2.2.1, .int o.2.2.2.2.2.2.1, .int o.2.2.2.2.2.2.2.1])), (t1, .inl (cy 1, 4, .inl (o.2.2.2.2.2.2.2.2.1))), (t2, .inl (cy 0, 3, .inl (o.2.2.2.2.2.2.2.2.2.1))), (t3, .inl (cy 1, 5, .inl (o.2.2.2.2.2.2.2.2.2.2)))]
theorem k_X1_begin_8 (fl : Nat → Int32) (fb : Nat → Int32) (fd : Nat → Int32)  (j : Nat) (hj : ¬ (0 ≤ j ∧ j ≤ 3)) : (n_X1_begin fl fb fd).2.2.2.2.2.2.2.2.1 j = fl j := by
  simp only [n_X1_begin]
  repeat (any_goals split)
  all_goals (try simp (disch := omega) only [pk_un])
theorem k_X1_begin_9 (fl : Nat → Int32) (fb : Nat → Int32) (fd : Nat → Int32)  (j : Nat) (hj : ¬ (0 ≤ j ∧ j ≤ 2)) : (n_X1_begin fl fb fd).2.2.2.2.2.2.2.2.2.1 j = fb j := by
  simp only [n_X1_begin]
  repeat (any_goals split)
  all_goals (try simp (disch := omega) only [pk_un])
theorem k_X1_begin_10 (fl : Nat → Int32) (fb : Nat → Int32) (fd : Nat → Int32)  (j : Nat) (hj : ¬ (0 ≤ j ∧ j ≤ 4)) : (n_X1_begin fl fb fd).2.2.2.2.2.2.2.2.2.2 j = fd j := by
  simp only [n_X1_begin]
  repeat (any_goals split)
  all_goals (try simp (disch := omega) only [pk_un])
set_option maxHeartbeats 4000000 in
set_option maxRecDepth 100000 in
theorem c_X1_begin (l : Launch) {E : zEn} (hE : zEok E) (D : zG) (cy : Nat → ClassId) (hO : zOut E) (t0 t1 t2 t3 : Nat) (u1 : Int32) (u2 : Int32) (u3 : Int32) (u4 : Int32) (u5 : Int32) (u6 : Int32) (u7 : Int32) (u8 : Int32) (fl : Nat → Int32) (fb : Nat → Int32) (fd : Nat → Int32)  (sz : Nat) : Met l yX1_begin (zws yX1_begin cX1_begin 2 none) { frames := 1, cells := 0, slots := 0, locals := 21 } (zPre E D cy [.ref t0] [(t0, .inr (4, [.int u1, .ref t1, .ref t2, .ref t3, .int u2, .int u3, .int u4, .int u5, .int u6, .int u7, .int u8])), (t1, .inl (cy 1, 4, .inl (fl))), (t2, .inl (cy 0, 3, .inl (fb))), (t3, .inl (cy 1, 5, .inl (fd)))] sz) (zQv D ((q_X1_begin cy t0 t1 t2 t3) (n_X1_begin fl fb fd)) (va_A [(t0, .inr (4, [.int u1, .ref t1, .ref t2, .ref t3, .int u2, .int u3, .int u4, .int u5, .int u6, .int u7, .int u8])), (t1, .inl (cy 1, 4, .inl (fl))), (t2, .inl (cy 0, 3, .inl (fb))), (t3, .inl (cy 1, 5, .inl (fd)))] sz)) 0 0 (va_A [(t0, .inr (4, [.int u1, .ref t1, .ref t2, .ref t3, .int u2, .int u3, .int u4, .int u5, .int u6, .int u7, .int u8])), (t1, .inl (cy 1, 4, .inl (fl))), (t2, .inl (cy 0, 3, .inl (fb))), (t3, .inl (cy 1, 5, .inl (fd)))] sz) := by
  refine z_of (Qc := fun A => zQv D ((q_X1_begin cy t0 t1 t2 t3) (n_X1_begin fl fb fd)) A) (by decide +kernel) (Nat.le_of_ble_eq_true rfl) rfl ?_
  intro pG eN sT mI below meth cO A ls C hRT hnm hA hP hD hS hE0 hl
  have hX := C.x
  have hB := C.b
  refine lv_aload_n hX hB dX1_begin_0 rfl (lv_at hl 0 rfl) ?_
  refine lv_iconst (v := 1) hX hB dX1_begin_1 (by decide) ?_
  refine fp_X1_9 C hP hD hS 0 rfl rfl rfl (Nat.le_of_ble_eq_true rfl) (w' := [(t0, .inr (4, [.int 1, .ref t1, .ref t2, .ref t3, .int u2, .int u3, .int u4, .int u5, .int u6, .int u7, .int u8])), (t1, .inl (cy 1, 4, .inl (fl))), (t2, .inl (cy 0, 3, .inl (fb))), (t3, .inl (cy 1, 5, .inl (fd)))]) rfl dX1_begin_2 (fun H locs hP hD hS => ?_)
  refine lv_aload_n hX hB dX1_begin_5 rfl (lv_at hl 0 rfl) ?_
  refine fg_X1_15 C hP 0 rfl rfl dX1_begin_6 ?_
  refine z_callSNv (isC := [1]) (isR := [0, 2, 3]) (isO := [0, 3, 1, 2]) (()) (q_X8_clearAll4 cy t1 fl) (fun o_1 => [(t0, .inr (4, [.int 1, .ref t1, .ref t2, .ref t3, .int u2, .int u3, .int u4, .int u5, .int u6, .int u7, .int u8])), (t1, .inl (cy 1, 4, .inl (upd (upd (upd (upd fl 0 0) 1 0) 2 0) 3 0))), (t2, .inl (cy 0, 3, .inl (fb))), (t3, .inl (cy 1, 5, .inl (fd)))]) (c_X8_clearAll4 l hE D cy t1 fl ) hE C zs_X1_26 ((hO _ _ _ hE0).nX1_26) ⟨Nat.le_of_ble_eq_true rfl, Nat.le_of_ble_eq_true rfl⟩ hP hD hS hA hE0 ⟨rfl, rfl, rfl, by decide, rfl, rfl, rfl⟩ rfl hl.1 (Nat.le_of_ble_eq_true rfl) rfl dX1_begin_9 ⟨Nat.le_of_ble_eq_true rfl, Nat.le_of_ble_eq_true rfl⟩ (fun o_1 H locs eo_1 hP hD hS => ?_)
  refine lv_iconst (v := 0) hX hB dX1_begin_12 (by decide) ?_
  refine lv_istore_n (lv' := [(1, .int 0), (0, .ref t0)]) hX hB dX1_begin_13 rfl hl (by decide) rfl (fun ls hl => ?_)
  refine lv_iload_n hX hB dX1_begin_14 rfl (lv_at hl 0 rfl) ?_
  refine lv_iconst (v := 3) hX hB dX1_begin_15 (by decide) ?_
  refine lv_icmp_ge (tgt := 33) hX hB dX1_begin_16 (by decide) (fun c => absurd c (by decide)) (fun _ => ?_)
  refine lv_aload_n hX hB dX1_begin_19 rfl (lv_at hl 1 rfl) ?_
  refine fg_X1_19 C hP 0 rfl rfl dX1_begin_20 ?_
  refine lv_iload_n hX hB dX1_begin_23 rfl (lv_at hl 0 rfl) ?_
  refine lv_bipush (v := 50) hX hB dX1_begin_24 (by decide) ?_
  refine z_iast C hP hD hS 2 rfl (k := 0) (zlit 0) (by decide) (by decide) (w' := [(t0, .inr (4, [.int 1, .ref t1, .ref t2, .ref t3, .int u2, .int u3, .int u4, .int u5, .int u6, .int u7, .int u8])), (t1, .inl (cy 1, 4, .inl (upd (upd (upd (upd fl 0 0) 1 0) 2 0) 3 0))), (t2, .inl (cy 0, 3, .inl (upd fb 0 50))), (t3, .inl (cy 1, 5, .inl (fd)))]) rfl dX1_begin_26 (fun H locs hP hD hS => ?_)
  refine lv_iinc (v := 1) (lv' := [(1, .int 1), (0, .ref t0)]) hX hB dX1_begin_27 hl (k := 0) rfl (by decide) (by decide) rfl (fun ls hl => ?_)
  refine lv_goto (tgt := 14) hX hB dX1_begin_30 (by decide) ?_
  refine lv_iload_n hX hB dX1_begin_14 rfl (lv_at hl 0 rfl) ?_
  refine lv_iconst (v := 3) hX hB dX1_begin_15 (by decide) ?_
  refine lv_icmp_ge (tgt := 33) hX hB dX1_begin_16 (by decide) (fun c => absurd c (by decide)) (fun _ => ?_)
  refine lv_aload_n hX hB dX1_begin_19 rfl (lv_at hl 1 rfl) ?_
  refine fg_X1_19 C hP 0 rfl rfl dX1_begin_20 ?_
  refine lv_iload_n hX hB dX1_begin_23 rfl (lv_at hl 0 rfl) ?_
  refine lv_bipush (v := 50) hX hB dX1_begin_24 (by decide) ?_
  refine z_iast C hP hD hS 2 rfl (k := 1) (zlit 1) (by decide) (by decide) (w' := [(t0, .inr (4, [.int 1, .ref t1, .ref t2, .ref t3, .int u2, .int u3, .int u4, .int u5, .int u6, .int u7, .int u8])), (t1, .inl (cy 1, 4, .inl (upd (upd (upd (upd fl 0 0) 1 0) 2 0) 3 0))), (t2, .inl (cy 0, 3, .inl (upd (upd fb 0 50) 1 50))), (t3, .inl (cy 1, 5, .inl (fd)))]) rfl dX1_begin_26 (fun H locs hP hD hS => ?_)
  refine lv_iinc (v := 2) (lv' := [(1, .int 2), (0, .ref t0)]) hX hB dX1_begin_27 hl (k := 0) rfl (by decide) (by decide) rfl (fun ls hl => ?_)
  refine lv_goto (tgt := 14) hX hB dX1_begin_30 (by decide) ?_
  refine lv_iload_n hX hB dX1_begin_14 rfl (lv_at hl 0 rfl) ?_
  refine lv_iconst (v := 3) hX hB dX1_begin_15 (by decide) ?_
  refine lv_icmp_ge (tgt := 33) hX hB dX1_begin_16 (by decide) (fun c => absurd c (by decide)) (fun _ => ?_)
  refine lv_aload_n hX hB dX1_begin_19 rfl (lv_at hl 1 rfl) ?_
  refine fg_X1_19 C hP 0 rfl rfl dX1_begin_20 ?_
  refine lv_iload_n hX hB dX1_begin_23 rfl (lv_at hl 0 rfl) ?_
  refine lv_bipush (v := 50) hX hB dX1_begin_24 (by decide) ?_
  refine z_iast C hP hD hS 2 rfl (k := 2) (zlit 2) (by decide) (by decide) (w' := [(t0, .inr (4, [.int 1, .ref t1, .ref t2, .ref t3, .int u2, .int u3, .int u4, .int u5, .int u6, .int u7, .int u8])), (t1, .inl (cy 1, 4, .inl (upd (upd (upd (upd fl 0 0) 1 0) 2 0) 3 0))), (t2, .inl (cy 0, 3, .inl (upd (upd (upd fb 0 50) 1 50) 2 50))), (t3, .inl (cy 1, 5, .inl (fd)))]) rfl dX1_begin_26 (fun H locs hP hD hS => ?_)
  refine lv_iinc (v := 3) (lv' := [(1, .int 3), (0, .ref t0)]) hX hB dX1_begin_27 hl (k := 0) rfl (by decide) (by decide) rfl (fun ls hl => ?_)
  refine lv_goto (tgt := 14) hX hB dX1_begin_30 (by decide) ?_
  refine lv_iload_n hX hB dX1_begin_14 rfl (lv_at hl 0 rfl) ?_
  refine lv_iconst (v := 3) hX hB dX1_begin_15 (by decide) ?_
  refine lv_icmp_ge (tgt := 33) hX hB dX1_begin_16 (by decide) (fun _ => ?_) (fun c => absurd (by decide) c)
  refine lv_aload_n hX hB dX1_begin_33 rfl (lv_at hl 1 rfl) ?_
  refine fg_X1_23 C hP 0 rfl rfl dX1_begin_34 ?_
  refine z_callSNv (isC := [3]) (isR := [0, 1, 2]) (isO := [0, 1, 2, 3]) (()) (q_X8_clearAll5 cy t3 fd) (fun o_2 => [(t0, .inr (4, [.int 1, .ref t1, .ref t2, .ref t3, .int u2, .int u3, .int u4, .int u5, .int u6, .int u7, .int u8])), (t1, .inl (cy 1, 4, .inl (upd (upd (upd (upd fl 0 0) 1 0) 2 0) 3 0))), (t2, .inl (cy 0, 3, .inl (upd (upd (upd fb 0 50) 1 50) 2 50))), (t3, .inl (cy 1, 5, .inl (upd (upd (upd (upd (upd fd 0 0) 1 0) 2 0) 3 0) 4 0)))]) (c_X8_clearAll5 l hE D cy t3 fd ) hE C zs_X1_26 ((hO _ _ _ hE0).nX1_26) ⟨Nat.le_of_ble_eq_true rfl, Nat.le_of_ble_eq_true rfl⟩ hP hD hS hA hE0 ⟨rfl, rfl, rfl, by decide, rfl, rfl, rfl⟩ rfl hl.1 (Nat.le_of_ble_eq_true rfl) rfl dX1_begin_37 ⟨Nat.le_of_ble_eq_true rfl, Nat.le_of_ble_eq_true rfl⟩ (fun o_2 H locs eo_2 hP hD hS => ?_)
  refine lv_aload_n hX hB dX1_begin_40 rfl (lv_at hl 1 rfl) ?_
  refine lv_iconst (v := 0) hX hB dX1_begin_41 (by decide) ?_
  refine fp_X1_30 C hP hD hS 0 rfl rfl rfl (Nat.le_of_ble_eq_true rfl) (w' := [(t0, .inr (4, [.int 1, .ref t1, .ref t2, .ref t3, .int 0, .int u3, .int u4, .int u5, .int u6, .int u7, .int u8])), (t1, .inl (cy 1, 4, .inl (upd (upd (upd (upd fl 0 0) 1 0) 2 0) 3 0))), (t2, .inl (cy 0, 3, .inl (upd (upd (upd fb 0 50) 1 50) 2 50))), (t3, .inl (cy 1, 5, .inl (upd (upd (upd (upd (upd fd 0 0) 1 0) 2 0) 3 0) 4 0)))]) rfl dX1_begin_42 (fun H locs hP hD hS => ?_)
  refine lv_aload_n hX hB dX1_begin_45 rfl (lv_at hl 1 rfl) ?_
  refine lv_iconst (v := 0) hX hB dX1_begin_46 (by decide) ?_
  refine fp_X1_33 C hP hD hS 0 rfl rfl rfl (Nat.le_of_ble_eq_true rfl) (w' := [(t0, .inr (4, [.int 1, .ref t1, .ref t2, .ref t3, .int 0, .int 0, .int u4, .int u5, .int u6, .int u7, .int u8])), (t1, .inl (cy 1, 4, .inl (upd (upd (upd (upd fl 0 0) 1 0) 2 0) 3 0))), (t2, .inl (cy 0, 3, .inl (upd (upd (upd fb 0 50) 1 50) 2 50))), (t3, .inl (cy 1, 5, .inl (upd (upd (upd (upd (upd fd 0 0) 1 0) 2 0) 3 0) 4 0)))]) rfl dX1_begin_47 (fun H locs hP hD hS => ?_)
  refine lv_aload_n hX hB dX1_begin_50 rfl (lv_at hl 1 rfl) ?_
  refine lv_iconst (v := 0) hX hB dX1_begin_51 (by decide) ?_
  refine fp_X1_36 C hP hD hS 0 rfl rfl rfl (Nat.le_of_ble_eq_true rfl) (w' := [(t0, .inr (4, [.int 1, .ref t1, .ref t2, .ref t3, .int 0, .int 0, .int 0, .int u5, .int u6, .int u7, .int u8])), (t1, .inl (cy 1, 4, .inl (upd (upd (upd (upd fl 0 0) 1 0) 2 0) 3 0))), (t2, .inl (cy 0, 3, .inl (upd (upd (upd fb 0 50) 1 50) 2 50))), (t3, .inl (cy 1, 5, .inl (upd (upd (upd (upd (upd fd 0 0) 1 0) 2 0) 3 0) 4 0)))]) rfl dX1_begin_52 (fun H locs hP hD hS => ?_)
  refine lv_aload_n hX hB dX1_begin_55 rfl (lv_at hl 1 rfl) ?_
  refine lv_iconst (v := 0) hX hB dX1_begin_56 (by decide) ?_
  refine fp_X1_39 C hP hD hS 0 rfl rfl rfl (Nat.le_of_ble_eq_true rfl) (w' := [(t0, .inr (4, [.int 1, .ref t1, .ref t2, .ref t3, .int 0, .int 0, .int 0, .int 0, .int u6, .int u7, .int u8])), (t1, .inl (cy 1, 4, .inl (upd (upd (upd (upd fl 0 0) 1 0) 2 0) 3 0))), (t2, .inl (cy 0, 3, .inl (upd (upd (upd fb 0 50) 1 50) 2 50))), (t3, .inl (cy 1, 5, .inl (upd (upd (upd (upd (upd fd 0 0) 1 0) 2 0) 3 0) 4 0)))]) rfl dX1_begin_57 (fun H locs hP hD hS => ?_)
  refine lv_aload_n hX hB dX1_begin_60 rfl (lv_at hl 1 rfl) ?_
  refine lv_iconst (v := 0) hX hB dX1_begin_61 (by decide) ?_
  refine fp_X1_42 C hP hD hS 0 rfl rfl rfl (Nat.le_of_ble_eq_true rfl) (w' := [(t0, .inr (4, [.int 1, .ref t1, .ref t2, .ref t3, .int 0, .int 0, .int 0, .int 0, .int 0, .int u7, .int u8])), (t1, .inl (cy 1, 4, .inl (upd (upd (upd (upd fl 0 0) 1 0) 2 0) 3 0))), (t2, .inl (cy 0, 3, .inl (upd (upd (upd fb 0 50) 1 50) 2 50))), (t3, .inl (cy 1, 5, .inl (upd (upd (upd (upd (upd fd 0 0) 1 0) 2 0) 3 0) 4 0)))]) rfl dX1_begin_62 (fun H locs hP hD hS => ?_)
  refine lv_aload_n hX hB dX1_begin_65 rfl (lv_at hl 1 rfl) ?_
  refine lv_iconst (v := 0) hX hB dX1_begin_66 (by decide) ?_
  refine fp_X1_45 C hP hD hS 0 rfl (zb01 (Or.inl rfl)) (zfitb (Or.inl rfl)) (Nat.le_of_ble_eq_true rfl) (w' := [(t0, .inr (4, [.int 1, .ref t1, .ref t2, .ref t3, .int 0, .int 0, .int 0, .int 0, .int 0, .int 0, .int u8])), (t1, .inl (cy 1, 4, .inl (upd (upd (upd (upd fl 0 0) 1 0) 2 0) 3 0))), (t2, .inl (cy 0, 3, .inl (upd (upd (upd fb 0 50) 1 50) 2 50))), (t3, .inl (cy 1, 5, .inl (upd (upd (upd (upd (upd fd 0 0) 1 0) 2 0) 3 0) 4 0)))]) rfl dX1_begin_67 (fun H locs hP hD hS => ?_)
  refine lv_aload_n hX hB dX1_begin_70 rfl (lv_at hl 1 rfl) ?_
  refine lv_iconst (v := 0) hX hB dX1_begin_71 (by decide) ?_
  refine fp_X1_49 C hP hD hS 0 rfl (zb01 (Or.inl rfl)) (zfitb (Or.inl rfl)) (Nat.le_of_ble_eq_true rfl) (w' := [(t0, .inr (4, [.int 1, .ref t1, .ref t2, .ref t3, .int 0, .int 0, .int 0, .int 0, .int 0, .int 0, .int 0])), (t1, .inl (cy 1, 4, .inl (upd (upd (upd (upd fl 0 0) 1 0) 2 0) 3 0))), (t2, .inl (cy 0, 3, .inl (upd (upd (upd fb 0 50) 1 50) 2 50))), (t3, .inl (cy 1, 5, .inl (upd (upd (upd (upd (upd fd 0 0) 1 0) 2 0) 3 0) 4 0)))]) rfl dX1_begin_72 (fun H locs hP hD hS => ?_)
  exact z_vret' (1, 0, 0, 0, 0, 0, 0, 0, upd (upd (upd (upd fl 0 0) 1 0) 2 0) 3 0, upd (upd (upd fb 0 50) 1 50) 2 50, upd (upd (upd (upd (upd fd 0 0) 1 0) 2 0) 3 0) 4 0) (w' := q_X1_begin cy t0 t1 t2 t3) (by simp only [n_X1_begin]) C hRT hP hD hS (Nat.le_of_ble_eq_true rfl) (Nat.le_of_ble_eq_true rfl) rfl dX1_begin_75

def n_X1_countHit (u4 : Int32) (u6 : Int32) (u7 : Int32) : Int32 × Int32 :=
  if u7 = 0 then
    ((if (u4 - 1) < 0 then 0 else u4 - 1), u6 + 1)
  else
    (u4, u6 + 1)
def q_X1_countHit (cy : Nat → ClassId) (t0 : Nat) (t1 : Nat) (t2 : Nat) (t3 : Nat) (u1 : Int32) (u2 : Int32) (u3 : Int32) (u5 : Int32) (u7 : Int32) (u8 : Int32) (fl : Nat → Int32) (fb : Nat → Int32) (fd : Nat → Int32) (o : Int32 × Int32) : va_W := [(t0, .inr (4, [.int u1, .ref t1, .ref t2, .ref t3, .int u2, .int u3, .int o.1, .int u5, .int o.2, .int u7, .int u8])), (t1, .inl (cy 1, 4, .inl (fl))), (t2, .inl (cy 0, 3, .inl (fb))), (t3, .inl (cy 1, 5, .inl (fd)))]
set_option maxHeartbeats 4000000 in
set_option maxRecDepth 100000 in
theorem c_X1_countHit (l : Launch) {E : zEn} (hE : zEok E) (D : zG) (cy : Nat → ClassId) (t0 t1 t2 t3 : Nat) (u1 : Int32) (u2 : Int32) (u3 : Int32) (u4 : Int32) (u5 : Int32) (u6 : Int32) (u7 : Int32) (u8 : Int32) (fl : Nat → Int32) (fb : Nat → Int32) (fd : Nat → Int32)  (sz : Nat) : Met l yX1_countHit (zws yX1_countHit cX1_countHit 1 none) { frames := 1, cells := 0, slots := 0, locals := 14 } (zPre E D cy [.ref t0] [(t0, .inr (4, [.int u1, .ref t1, .ref t2, .ref t3, .int u2, .int u3, .int u4, .int u5, .int u6, .int u7, .int u8])), (t1, .inl (cy 1, 4, .inl (fl))), (t2, .inl (cy 0, 3, .inl (fb))), (t3, .inl (cy 1, 5, .inl (fd)))] sz) (zQv D ((q_X1_countHit cy t0 t1 t2 t3 u1 u2 u3 u5 u7 u8 fl fb fd) (n_X1_countHit u4 u6 u7)) (va_A [(t0, .inr (4, [.int u1, .ref t1, .ref t2, .ref t3, .int u2, .int u3, .int u4, .int u5, .int u6, .int u7, .int u8])), (t1, .inl (cy 1, 4, .inl (fl))), (t2, .inl (cy 0, 3, .inl (fb))), (t3, .inl (cy 1, 5, .inl (fd)))] sz)) 0 0 (va_A [(t0, .inr (4, [.int u1, .ref t1, .ref t2, .ref t3, .int u2, .int u3, .int u4, .int u5, .int u6, .int u7, .int u8])), (t1, .inl (cy 1, 4, .inl (fl))), (t2, .inl (cy 0, 3, .inl (fb))), (t3, .inl (cy 1, 5, .inl (fd)))] sz) := by
  refine z_of (Qc := fun A => zQv D ((q_X1_countHit cy t0 t1 t2 t3 u1 u2 u3 u5 u7 u8 fl fb fd) (n_X1_countHit u4 u6 u7)) A) (by decide +kernel) (Nat.le_of_ble_eq_true rfl) rfl ?_
  intro pG eN sT mI below meth cO A ls C hRT hnm hA hP hD hS hE0 hl
  have hX := C.x
  have hB := C.b
  refine lv_aload_n hX hB dX1_countHit_0 rfl (lv_at hl 0 rfl) ?_
  refine lv_dup hX hB dX1_countHit_1 rfl ?_
  refine fg_X1_42 C hP 0 rfl rfl dX1_countHit_2 ?_
  refine lv_iconst (v := 1) hX hB dX1_countHit_5 (by decide) ?_
  refine z_iadd (v := u6 + 1) C dX1_countHit_6 rfl ?_
  refine fp_X1_42 C hP hD hS 0 rfl rfl rfl (Nat.le_of_ble_eq_true rfl) (w' := [(t0, .inr (4, [.int u1, .ref t1, .ref t2, .ref t3, .int u2, .int u3, .int u4, .int u5, .int (u6 + 1), .int u7, .int u8])), (t1, .inl (cy 1, 4, .inl (fl))), (t2, .inl (cy 0, 3, .inl (fb))), (t3, .inl (cy 1, 5, .inl (fd)))]) rfl dX1_countHit_7 (fun H locs hP hD hS => ?_)
  refine lv_aload_n hX hB dX1_countHit_10 rfl (lv_at hl 0 rfl) ?_
  refine fg_X1_45 C hP 0 rfl rfl dX1_countHit_11 ?_
  refine lv_if_ne (tgt := 31) hX hB dX1_countHit_14 (by decide) (fun c_1 => ?_) (fun c_1 => ?_)
  · exact z_vret' (u4, u6 + 1) (w' := q_X1_countHit cy t0 t1 t2 t3 u1 u2 u3 u5 u7 u8 fl fb fd) (by simp only [n_X1_countHit, if_neg c_1]) C hRT hP hD hS (Nat.le_of_ble_eq_true rfl) (Nat.le_of_ble_eq_true rfl) rfl dX1_countHit_31
  · refine lv_aload_n hX hB dX1_countHit_17 rfl (lv_at hl 0 rfl) ?_
    refine lv_aload_n hX hB dX1_countHit_18 rfl (lv_at hl 0 rfl) ?_
    refine fg_X1_36 C hP 0 rfl rfl dX1_countHit_19 ?_
    refine lv_iconst (v := 1) hX hB dX1_countHit_22 (by decide) ?_
    refine z_isub (v := u4 - 1) C dX1_countHit_23 rfl ?_
    refine lv_iconst (v := 0) hX hB dX1_countHit_24 (by decide) ?_
    refine va_mmax hX hB (C.2.2.1.trans hl.1.symm) C.o (C.ts _ zm310) (C.ts _ zm311) (C.ts _ zm199) (C.ts _ zm312) (Nat.le_of_ble_eq_true rfl) (Nat.le_of_ble_eq_true rfl) (Nat.le_of_ble_eq_true rfl) (Nat.le_of_ble_eq_true rfl) dX1_countHit_25 ?_
    refine fp_X1_36 C hP hD hS 0 rfl rfl rfl (Nat.le_of_ble_eq_true rfl) (w' := [(t0, .inr (4, [.int u1, .ref t1, .ref t2, .ref t3, .int u2, .int u3, .int (if (u4 - 1) < 0 then 0 else u4 - 1), .int u5, .int (u6 + 1), .int u7, .int u8])), (t1, .inl (cy 1, 4, .inl (fl))), (t2, .inl (cy 0, 3, .inl (fb))), (t3, .inl (cy 1, 5, .inl (fd)))]) rfl dX1_countHit_28 (fun H locs hP hD hS => ?_)
    exact z_vret' ((if (u4 - 1) < 0 then 0 else u4 - 1), u6 + 1) (w' := q_X1_countHit cy t0 t1 t2 t3 u1 u2 u3 u5 u7 u8 fl fb fd) (by simp only [n_X1_countHit, if_pos c_1]) C hRT hP hD hS (Nat.le_of_ble_eq_true rfl) (Nat.le_of_ble_eq_true rfl) rfl dX1_countHit_31

def n_X1_strikeLane (u1 : Int32) (u4 : Int32) (u6 : Int32) (u7 : Int32) (fl : Nat → Int32) (k : Nat) : Int32 × Int32 × Int32 × Int32 × (Nat → Int32) :=
  let o_1 := n_X1_countHit u4 u6 u7
  if u7 = 0 then
    if fl k = 0 then
      let o_4 := n_X8_allTrue4 (upd fl k 1)
      if o_4 = 0 then
        (100 * u1, u1, o_1.1, o_1.2, upd fl k 1)
      else
        (100 * u1, (if 6 < (u1 + 1) then 6 else u1 + 1), o_1.1, o_1.2, upd (upd (upd (upd (upd fl k 1) 0 0) 1 0) 2 0) 3 0)
    else
      let o_7 := n_X8_allTrue4 (upd fl k 1)
      if o_7 = 0 then
        (10 * u1, u1, o_1.1, o_1.2, upd fl k 1)
      else
        (10 * u1, (if 6 < (u1 + 1) then 6 else u1 + 1), o_1.1, o_1.2, upd (upd (upd (upd (upd fl k 1) 0 0) 1 0) 2 0) 3 0)
  else
    (0, u1, o_1.1, o_1.2, fl)
def q_X1_strikeLane (cy : Nat → ClassId) (t0 : Nat) (t1 : Nat) (t2 : Nat) (t3 : Nat) (u2 : Int32) (u3 : Int32) (u5 : Int32) (u7 : Int32) (u8 : Int32) (fb : Nat → Int32) (fd : Nat → Int32) (o : Int32 × Int32 × Int32 × Int32 × (Nat → Int32)) : va_W := [(t0, .inr (4, [.int o.2.1, .ref t1, .ref t2, .ref t3, .int u2, .int u3, .int o.2.2.1, .int u5, .int o.2.2.2.1, .int u7, .int u8])), (t1, .inl (cy 1, 4, .inl (o.2.2.2.2))), (t2, .inl (cy 0, 3, .inl (fb))), (t3, .inl (cy 1, 5, .inl (fd)))]
theorem k_X1_strikeLane (u1 : Int32) (u4 : Int32) (u6 : Int32) (u7 : Int32) (fl : Nat → Int32) (k : Nat)  (j : Nat) (hj : j < 0) : (n_X1_strikeLane u1 u4 u6 u7 fl k).2.2.2.2 j = fl j := by
  simp only [n_X1_strikeLane]
  repeat (any_goals split)
  all_goals (try simp (disch := omega) only [pk_un])
set_option maxHeartbeats 4000000 in
set_option maxRecDepth 100000 in
theorem c_X1_strikeLane (l : Launch) {E : zEn} (hE : zEok E) (D : zG) (cy : Nat → ClassId) (hO : zOut E) (t0 t1 t2 t3 : Nat) (u1 : Int32) (u2 : Int32) (u3 : Int32) (u4 : Int32) (u5 : Int32) (u6 : Int32) (u7 : Int32) (u8 : Int32) (fl : Nat → Int32) (fb : Nat → Int32) (fd : Nat → Int32) (x : Int32) (k : Nat) (hx : zi x k) (hxb : k ≤ 3) (sz : Nat) : Met l yX1_strikeLane (zws yX1_strikeLane cX1_strikeLane 3 (some .int)) { frames := 2, cells := 0, slots := 0, locals := 34 } (zPre E D cy [.ref t0, .int x] [(t0, .inr (4, [.int u1, .ref t1, .ref t2, .ref t3, .int u2, .int u3, .int u4, .int u5, .int u6, .int u7, .int u8])), (t1, .inl (cy 1, 4, .inl (fl))), (t2, .inl (cy 0, 3, .inl (fb))), (t3, .inl (cy 1, 5, .inl (fd)))] sz) (zQi D ((q_X1_strikeLane cy t0 t1 t2 t3 u2 u3 u5 u7 u8 fb fd) (n_X1_strikeLane u1 u4 u6 u7 fl k)) (va_A [(t0, .inr (4, [.int u1, .ref t1, .ref t2, .ref t3, .int u2, .int u3, .int u4, .int u5, .int u6, .int u7, .int u8])), (t1, .inl (cy 1, 4, .inl (fl))), (t2, .inl (cy 0, 3, .inl (fb))), (t3, .inl (cy 1, 5, .inl (fd)))] sz) ((n_X1_strikeLane u1 u4 u6 u7 fl k).1)) 0 0 (va_A [(t0, .inr (4, [.int u1, .ref t1, .ref t2, .ref t3, .int u2, .int u3, .int u4, .int u5, .int u6, .int u7, .int u8])), (t1, .inl (cy 1, 4, .inl (fl))), (t2, .inl (cy 0, 3, .inl (fb))), (t3, .inl (cy 1, 5, .inl (fd)))] sz) := by
  refine z_of (Qc := fun A => zQi D ((q_X1_strikeLane cy t0 t1 t2 t3 u2 u3 u5 u7 u8 fb fd) (n_X1_strikeLane u1 u4 u6 u7 fl k)) A ((n_X1_strikeLane u1 u4 u6 u7 fl k).1)) (by decide +kernel) (Nat.le_of_ble_eq_true rfl) rfl ?_
  intro pG eN sT mI below meth cO A ls C hRT hnm hA hP hD hS hE0 hl
  have hX := C.x
  have hB := C.b
  refine lv_aload_n hX hB dX1_strikeLane_0 rfl (lv_at hl 0 rfl) ?_
  refine z_callVv (isC := [0, 1, 2, 3]) (isR := []) (isO := [0, 1, 2, 3]) (n_X1_countHit u4 u6 u7) (q_X1_countHit cy t0 t1 t2 t3 u1 u2 u3 u5 u7 u8 fl fb fd) (fun o_1 => [(t0, .inr (4, [.int u1, .ref t1, .ref t2, .ref t3, .int u2, .int u3, .int o_1.1, .int u5, .int o_1.2, .int u7, .int u8])), (t1, .inl (cy 1, 4, .inl (fl))), (t2, .inl (cy 0, 3, .inl (fb))), (t3, .inl (cy 1, 5, .inl (fd)))]) (c_X1_countHit l hE D cy t0 t1 t2 t3 u1 u2 u3 u4 u5 u6 u7 u8 fl fb fd ) hE C zs_X1_62 ⟨Nat.le_of_ble_eq_true rfl, Nat.le_of_ble_eq_true rfl⟩ hP hD hS hA hE0 ⟨rfl, rfl, rfl, by decide, rfl, rfl, rfl⟩ 0 rfl rfl rfl rfl hl.1 (Nat.le_of_ble_eq_true rfl) rfl dX1_strikeLane_1 ⟨Nat.le_of_ble_eq_true rfl, Nat.le_of_ble_eq_true rfl⟩ (fun o_1 H locs eo_1 hP hD hS => ?_)
  refine lv_aload_n hX hB dX1_strikeLane_4 rfl (lv_at hl 0 rfl) ?_
  refine fg_X1_45 C hP 0 rfl rfl dX1_strikeLane_5 ?_
  refine lv_if_eq (tgt := 13) hX hB dX1_strikeLane_8 (by decide) (fun c_2 => ?_) (fun c_2 => ?_)
  · refine lv_aload_n hX hB dX1_strikeLane_13 rfl (lv_at hl 0 rfl) ?_
    refine fg_X1_15 C hP 0 rfl rfl dX1_strikeLane_14 ?_
    refine lv_iload_n hX hB dX1_strikeLane_17 rfl (lv_at hl 1 rfl) ?_
    refine z_zald C hP 1 rfl (k := k) hx (by omega) (by decide) (v := fl k) rfl dX1_strikeLane_18 ?_
    refine lv_if_eq (tgt := 27) hX hB dX1_strikeLane_19 (by decide) (fun c_3 => ?_) (fun c_3 => ?_)
    · refine lv_bipush (v := 100) hX hB dX1_strikeLane_27 (by decide) ?_
      refine lv_aload_n hX hB dX1_strikeLane_29 rfl (lv_at hl 0 rfl) ?_
      refine fg_X1_9 C hP 0 rfl rfl dX1_strikeLane_30 ?_
      refine z_imul (v := 100 * u1) C dX1_strikeLane_33 rfl ?_
      refine lv_istore_n (lv' := [(2, .int (100 * u1)), (0, .ref t0), (1, .int x)]) hX hB dX1_strikeLane_34 rfl hl (by decide) rfl (fun ls hl => ?_)
      refine lv_aload_n hX hB dX1_strikeLane_35 rfl (lv_at hl 1 rfl) ?_
      refine fg_X1_15 C hP 0 rfl rfl dX1_strikeLane_36 ?_
      refine lv_iload_n hX hB dX1_strikeLane_39 rfl (lv_at hl 2 rfl) ?_
      refine lv_iconst (v := 1) hX hB dX1_strikeLane_40 (by decide) ?_
      refine z_zast C hP hD hS 1 rfl (k := k) hx (by omega) (by decide) (znar (Or.inr rfl)) (w' := [(t0, .inr (4, [.int u1, .ref t1, .ref t2, .ref t3, .int u2, .int u3, .int o_1.1, .int u5, .int o_1.2, .int u7, .int u8])), (t1, .inl (cy 1, 4, .inl (upd fl k 1))), (t2, .inl (cy 0, 3, .inl (fb))), (t3, .inl (cy 1, 5, .inl (fd)))]) rfl dX1_strikeLane_41 (fun H locs hP hD hS => ?_)
      refine lv_aload_n hX hB dX1_strikeLane_42 rfl (lv_at hl 1 rfl) ?_
      refine fg_X1_15 C hP 0 rfl rfl dX1_strikeLane_43 ?_
      refine z_callSNi (isC := [1]) (isR := [0, 2, 3]) (isO := [0, 3, 1, 2]) (n_X8_allTrue4 (upd fl k 1)) (q_X8_allTrue4 cy t1 (upd fl k 1)) (fun o_4 => [(t0, .inr (4, [.int u1, .ref t1, .ref t2, .ref t3, .int u2, .int u3, .int o_1.1, .int u5, .int o_1.2, .int u7, .int u8])), (t1, .inl (cy 1, 4, .inl (upd fl k 1))), (t2, .inl (cy 0, 3, .inl (fb))), (t3, .inl (cy 1, 5, .inl (fd)))]) (fun o_4 => o_4) (c_X8_allTrue4 l hE D cy t1 (upd fl k 1) ) hE C zs_X1_65 ((hO _ _ _ hE0).nX1_65) ⟨Nat.le_of_ble_eq_true rfl, Nat.le_of_ble_eq_true rfl⟩ hP hD hS hA hE0 ⟨rfl, rfl, rfl, by decide, rfl, rfl, rfl⟩ rfl hl.1 (Nat.le_of_ble_eq_true rfl) rfl dX1_strikeLane_46 ⟨Nat.le_of_ble_eq_true rfl, Nat.le_of_ble_eq_true rfl⟩ (fun o_4 H locs eo_4 hP hD hS => ?_)
      refine lv_if_eq (tgt := 74) hX hB dX1_strikeLane_49 (by decide) (fun c_5 => ?_) (fun c_5 => ?_)
      · refine lv_iload_n hX hB dX1_strikeLane_74 rfl (lv_at hl 0 rfl) ?_
        exact z_iret' (100 * u1, u1, o_1.1, o_1.2, upd fl k 1) (w' := q_X1_strikeLane cy t0 t1 t2 t3 u2 u3 u5 u7 u8 fb fd) (r0 := (fun (o : Int32 × Int32 × Int32 × Int32 × (Nat → Int32)) => o.1)) (by simp only [n_X1_strikeLane, ← eo_1, if_pos c_2, if_pos c_3, ← eo_4, if_pos c_5]) C hRT hP hD hS (Nat.le_of_ble_eq_true rfl) (Nat.le_of_ble_eq_true rfl) rfl rfl dX1_strikeLane_75
      · refine lv_aload_n hX hB dX1_strikeLane_52 rfl (lv_at hl 1 rfl) ?_
        refine fg_X1_15 C hP 0 rfl rfl dX1_strikeLane_53 ?_
        refine z_callSNv (isC := [1]) (isR := [0, 2, 3]) (isO := [0, 3, 1, 2]) (()) (q_X8_clearAll4 cy t1 (upd fl k 1)) (fun o_6 => [(t0, .inr (4, [.int u1, .ref t1, .ref t2, .ref t3, .int u2, .int u3, .int o_1.1, .int u5, .int o_1.2, .int u7, .int u8])), (t1, .inl (cy 1, 4, .inl (upd (upd (upd (upd (upd fl k 1) 0 0) 1 0) 2 0) 3 0))), (t2, .inl (cy 0, 3, .inl (fb))), (t3, .inl (cy 1, 5, .inl (fd)))]) (c_X8_clearAll4 l hE D cy t1 (upd fl k 1) ) hE C zs_X1_26 ((hO _ _ _ hE0).nX1_26) ⟨Nat.le_of_ble_eq_true rfl, Nat.le_of_ble_eq_true rfl⟩ hP hD hS hA hE0 ⟨rfl, rfl, rfl, by decide, rfl, rfl, rfl⟩ rfl hl.1 (Nat.le_of_ble_eq_true rfl) rfl dX1_strikeLane_56 ⟨Nat.le_of_ble_eq_true rfl, Nat.le_of_ble_eq_true rfl⟩ (fun o_6 H locs eo_6 hP hD hS => ?_)
        refine lv_aload_n hX hB dX1_strikeLane_59 rfl (lv_at hl 1 rfl) ?_
        refine lv_aload_n hX hB dX1_strikeLane_60 rfl (lv_at hl 1 rfl) ?_
        refine fg_X1_9 C hP 0 rfl rfl dX1_strikeLane_61 ?_
        refine lv_iconst (v := 1) hX hB dX1_strikeLane_64 (by decide) ?_
        refine z_iadd (v := u1 + 1) C dX1_strikeLane_65 rfl ?_
        refine lv_bipush (v := 6) hX hB dX1_strikeLane_66 (by decide) ?_
        refine va_mmin hX hB (C.2.2.1.trans hl.1.symm) C.o (C.ts _ zm305) (C.ts _ zm198) (C.ts _ zm199) (C.ts _ zm200) (Nat.le_of_ble_eq_true rfl) (Nat.le_of_ble_eq_true rfl) (Nat.le_of_ble_eq_true rfl) (Nat.le_of_ble_eq_true rfl) dX1_strikeLane_68 ?_
        refine fp_X1_9 C hP hD hS 0 rfl rfl rfl (Nat.le_of_ble_eq_true rfl) (w' := [(t0, .inr (4, [.int (if 6 < (u1 + 1) then 6 else u1 + 1), .ref t1, .ref t2, .ref t3, .int u2, .int u3, .int o_1.1, .int u5, .int o_1.2, .int u7, .int u8])), (t1, .inl (cy 1, 4, .inl (upd (upd (upd (upd (upd fl k 1) 0 0) 1 0) 2 0) 3 0))), (t2, .inl (cy 0, 3, .inl (fb))), (t3, .inl (cy 1, 5, .inl (fd)))]) rfl dX1_strikeLane_71 (fun H locs hP hD hS => ?_)
        refine lv_iload_n hX hB dX1_strikeLane_74 rfl (lv_at hl 0 rfl) ?_
        exact z_iret' (100 * u1, (if 6 < (u1 + 1) then 6 else u1 + 1), o_1.1, o_1.2, upd (upd (upd (upd (upd fl k 1) 0 0) 1 0) 2 0) 3 0) (w' := q_X1_strikeLane cy t0 t1 t2 t3 u2 u3 u5 u7 u8 fb fd) (r0 := (fun (o : Int32 × Int32 × Int32 × Int32 × (Nat → Int32)) => o.1)) (by simp only [n_X1_strikeLane, ← eo_1, if_pos c_2, if_pos c_3, ← eo_4, if_neg c_5]) C hRT hP hD hS (Nat.le_of_ble_eq_true rfl) (Nat.le_of_ble_eq_true rfl) rfl rfl dX1_strikeLane_75
    · refine lv_bipush (v := 10) hX hB dX1_strikeLane_22 (by decide) ?_
      refine lv_goto (tgt := 29) hX hB dX1_strikeLane_24 (by decide) ?_
      refine lv_aload_n hX hB dX1_strikeLane_29 rfl (lv_at hl 0 rfl) ?_
      refine fg_X1_9 C hP 0 rfl rfl dX1_strikeLane_30 ?_
      refine z_imul (v := 10 * u1) C dX1_strikeLane_33 rfl ?_
      refine lv_istore_n (lv' := [(2, .int (10 * u1)), (0, .ref t0), (1, .int x)]) hX hB dX1_strikeLane_34 rfl hl (by decide) rfl (fun ls hl => ?_)
      refine lv_aload_n hX hB dX1_strikeLane_35 rfl (lv_at hl 1 rfl) ?_
      refine fg_X1_15 C hP 0 rfl rfl dX1_strikeLane_36 ?_
      refine lv_iload_n hX hB dX1_strikeLane_39 rfl (lv_at hl 2 rfl) ?_
      refine lv_iconst (v := 1) hX hB dX1_strikeLane_40 (by decide) ?_
      refine z_zast C hP hD hS 1 rfl (k := k) hx (by omega) (by decide) (znar (Or.inr rfl)) (w' := [(t0, .inr (4, [.int u1, .ref t1, .ref t2, .ref t3, .int u2, .int u3, .int o_1.1, .int u5, .int o_1.2, .int u7, .int u8])), (t1, .inl (cy 1, 4, .inl (upd fl k 1))), (t2, .inl (cy 0, 3, .inl (fb))), (t3, .inl (cy 1, 5, .inl (fd)))]) rfl dX1_strikeLane_41 (fun H locs hP hD hS => ?_)
      refine lv_aload_n hX hB dX1_strikeLane_42 rfl (lv_at hl 1 rfl) ?_
      refine fg_X1_15 C hP 0 rfl rfl dX1_strikeLane_43 ?_
      refine z_callSNi (isC := [1]) (isR := [0, 2, 3]) (isO := [0, 3, 1, 2]) (n_X8_allTrue4 (upd fl k 1)) (q_X8_allTrue4 cy t1 (upd fl k 1)) (fun o_7 => [(t0, .inr (4, [.int u1, .ref t1, .ref t2, .ref t3, .int u2, .int u3, .int o_1.1, .int u5, .int o_1.2, .int u7, .int u8])), (t1, .inl (cy 1, 4, .inl (upd fl k 1))), (t2, .inl (cy 0, 3, .inl (fb))), (t3, .inl (cy 1, 5, .inl (fd)))]) (fun o_7 => o_7) (c_X8_allTrue4 l hE D cy t1 (upd fl k 1) ) hE C zs_X1_65 ((hO _ _ _ hE0).nX1_65) ⟨Nat.le_of_ble_eq_true rfl, Nat.le_of_ble_eq_true rfl⟩ hP hD hS hA hE0 ⟨rfl, rfl, rfl, by decide, rfl, rfl, rfl⟩ rfl hl.1 (Nat.le_of_ble_eq_true rfl) rfl dX1_strikeLane_46 ⟨Nat.le_of_ble_eq_true rfl, Nat.le_of_ble_eq_true rfl⟩ (fun o_7 H locs eo_7 hP hD hS => ?_)
      refine lv_if_eq (tgt := 74) hX hB dX1_strikeLane_49 (by decide) (fun c_8 => ?_) (fun c_8 => ?_)
      · refine lv_iload_n hX hB dX1_strikeLane_74 rfl (lv_at hl 0 rfl) ?_
        exact z_iret' (10 * u1, u1, o_1.1, o_1.2, upd fl k 1) (w' := q_X1_strikeLane cy t0 t1 t2 t3 u2 u3 u5 u7 u8 fb fd) (r0 := (fun (o : Int32 × Int32 × Int32 × Int32 × (Nat → Int32)) => o.1)) (by simp only [n_X1_strikeLane, ← eo_1, if_pos c_2, if_neg c_3, ← eo_7, if_pos c_8]) C hRT hP hD hS (Nat.le_of_ble_eq_true rfl) (Nat.le_of_ble_eq_true rfl) rfl rfl dX1_strikeLane_75
      · refine lv_aload_n hX hB dX1_strikeLane_52 rfl (lv_at hl 1 rfl) ?_
        refine fg_X1_15 C hP 0 rfl rfl dX1_strikeLane_53 ?_
        refine z_callSNv (isC := [1]) (isR := [0, 2, 3]) (isO := [0, 3, 1, 2]) (()) (q_X8_clearAll4 cy t1 (upd fl k 1)) (fun o_9 => [(t0, .inr (4, [.int u1, .ref t1, .ref t2, .ref t3, .int u2, .int u3, .int o_1.1, .int u5, .int o_1.2, .int u7, .int u8])), (t1, .inl (cy 1, 4, .inl (upd (upd (upd (upd (upd fl k 1) 0 0) 1 0) 2 0) 3 0))), (t2, .inl (cy 0, 3, .inl (fb))), (t3, .inl (cy 1, 5, .inl (fd)))]) (c_X8_clearAll4 l hE D cy t1 (upd fl k 1) ) hE C zs_X1_26 ((hO _ _ _ hE0).nX1_26) ⟨Nat.le_of_ble_eq_true rfl, Nat.le_of_ble_eq_true rfl⟩ hP hD hS hA hE0 ⟨rfl, rfl, rfl, by decide, rfl, rfl, rfl⟩ rfl hl.1 (Nat.le_of_ble_eq_true rfl) rfl dX1_strikeLane_56 ⟨Nat.le_of_ble_eq_true rfl, Nat.le_of_ble_eq_true rfl⟩ (fun o_9 H locs eo_9 hP hD hS => ?_)
        refine lv_aload_n hX hB dX1_strikeLane_59 rfl (lv_at hl 1 rfl) ?_
        refine lv_aload_n hX hB dX1_strikeLane_60 rfl (lv_at hl 1 rfl) ?_
        refine fg_X1_9 C hP 0 rfl rfl dX1_strikeLane_61 ?_
        refine lv_iconst (v := 1) hX hB dX1_strikeLane_64 (by decide) ?_
        refine z_iadd (v := u1 + 1) C dX1_strikeLane_65 rfl ?_
        refine lv_bipush (v := 6) hX hB dX1_strikeLane_66 (by decide) ?_
        refine va_mmin hX hB (C.2.2.1.trans hl.1.symm) C.o (C.ts _ zm305) (C.ts _ zm198) (C.ts _ zm199) (C.ts _ zm200) (Nat.le_of_ble_eq_true rfl) (Nat.le_of_ble_eq_true rfl) (Nat.le_of_ble_eq_true rfl) (Nat.le_of_ble_eq_true rfl) dX1_strikeLane_68 ?_
        refine fp_X1_9 C hP hD hS 0 rfl rfl rfl (Nat.le_of_ble_eq_true rfl) (w' := [(t0, .inr (4, [.int (if 6 < (u1 + 1) then 6 else u1 + 1), .ref t1, .ref t2, .ref t3, .int u2, .int u3, .int o_1.1, .int u5, .int o_1.2, .int u7, .int u8])), (t1, .inl (cy 1, 4, .inl (upd (upd (upd (upd (upd fl k 1) 0 0) 1 0) 2 0) 3 0))), (t2, .inl (cy 0, 3, .inl (fb))), (t3, .inl (cy 1, 5, .inl (fd)))]) rfl dX1_strikeLane_71 (fun H locs hP hD hS => ?_)
        refine lv_iload_n hX hB dX1_strikeLane_74 rfl (lv_at hl 0 rfl) ?_
        exact z_iret' (10 * u1, (if 6 < (u1 + 1) then 6 else u1 + 1), o_1.1, o_1.2, upd (upd (upd (upd (upd fl k 1) 0 0) 1 0) 2 0) 3 0) (w' := q_X1_strikeLane cy t0 t1 t2 t3 u2 u3 u5 u7 u8 fb fd) (r0 := (fun (o : Int32 × Int32 × Int32 × Int32 × (Nat → Int32)) => o.1)) (by simp only [n_X1_strikeLane, ← eo_1, if_pos c_2, if_neg c_3, ← eo_7, if_neg c_8]) C hRT hP hD hS (Nat.le_of_ble_eq_true rfl) (Nat.le_of_ble_eq_true rfl) rfl rfl dX1_strikeLane_75
  · refine lv_iconst (v := 0) hX hB dX1_strikeLane_11 (by decide) ?_
    exact z_iret' (0, u1, o_1.1, o_1.2, fl) (w' := q_X1_strikeLane cy t0 t1 t2 t3 u2 u3 u5 u7 u8 fb fd) (r0 := (fun (o : Int32 × Int32 × Int32 × Int32 × (Nat → Int32)) => o.1)) (by simp only [n_X1_strikeLane, ← eo_1, if_neg c_2]) C hRT hP hD hS (Nat.le_of_ble_eq_true rfl) (Nat.le_of_ble_eq_true rfl) rfl rfl dX1_strikeLane_12

def n_X1_strikeBumper (u1 : Int32) (u4 : Int32) (u6 : Int32) (u7 : Int32) (fb : Nat → Int32) (k : Nat) : Int32 × Int32 × Int32 × (Nat → Int32) :=
  let o_1 := n_X1_countHit u4 u6 u7
  if u7 = 0 then
    ((fb k) * u1, o_1.1, o_1.2, upd fb k (if 200 < ((fb k) + 10) then 200 else (fb k) + 10))
  else
    (0, o_1.1, o_1.2, fb)
def q_X1_strikeBumper (cy : Nat → ClassId) (t0 : Nat) (t1 : Nat) (t2 : Nat) (t3 : Nat) (u1 : Int32) (u2 : Int32) (u3 : Int32) (u5 : Int32) (u7 : Int32) (u8 : Int32) (fl : Nat → Int32) (fd : Nat → Int32) (o : Int32 × Int32 × Int32 × (Nat → Int32)) : va_W := [(t0, .inr (4, [.int u1, .ref t1, .ref t2, .ref t3, .int u2, .int u3, .int o.2.1, .int u5, .int o.2.2.1, .int u7, .int u8])), (t1, .inl (cy 1, 4, .inl (fl))), (t2, .inl (cy 0, 3, .inl (o.2.2.2))), (t3, .inl (cy 1, 5, .inl (fd)))]
theorem k_X1_strikeBumper (u1 : Int32) (u4 : Int32) (u6 : Int32) (u7 : Int32) (fb : Nat → Int32) (k : Nat)  (j : Nat) (hj : j < 0) : (n_X1_strikeBumper u1 u4 u6 u7 fb k).2.2.2 j = fb j := by
  simp only [n_X1_strikeBumper]
  repeat (any_goals split)
  all_goals (try simp (disch := omega) only [pk_un])
set_option maxHeartbeats 4000000 in
set_option maxRecDepth 100000 in
theorem c_X1_strikeBumper (l : Launch) {E : zEn} (hE : zEok E) (D : zG) (cy : Nat → ClassId) (t0 t1 t2 t3 : Nat) (u1 : Int32) (u2 : Int32) (u3 : Int32) (u4 : Int32) (u5 : Int32) (u6 : Int32) (u7 : Int32) (u8 : Int32) (fl : Nat → Int32) (fb : Nat → Int32) (fd : Nat → Int32) (x : Int32) (k : Nat) (hx : zi x k) (hxb : k ≤ 2) (sz : Nat) : Met l yX1_strikeBumper (zws yX1_strikeBumper cX1_strikeBumper 3 (some .int)) { frames := 2, cells := 0, slots := 0, locals := 34 } (zPre E D cy [.ref t0, .int x] [(t0, .inr (4, [.int u1, .ref t1, .ref t2, .ref t3, .int u2, .int u3, .int u4, .int u5, .int u6, .int u7, .int u8])), (t1, .inl (cy 1, 4, .inl (fl))), (t2, .inl (cy 0, 3, .inl (fb))), (t3, .inl (cy 1, 5, .inl (fd)))] sz) (zQi D ((q_X1_strikeBumper cy t0 t1 t2 t3 u1 u2 u3 u5 u7 u8 fl fd) (n_X1_strikeBumper u1 u4 u6 u7 fb k)) (va_A [(t0, .inr (4, [.int u1, .ref t1, .ref t2, .ref t3, .int u2, .int u3, .int u4, .int u5, .int u6, .int u7, .int u8])), (t1, .inl (cy 1, 4, .inl (fl))), (t2, .inl (cy 0, 3, .inl (fb))), (t3, .inl (cy 1, 5, .inl (fd)))] sz) ((n_X1_strikeBumper u1 u4 u6 u7 fb k).1)) 0 0 (va_A [(t0, .inr (4, [.int u1, .ref t1, .ref t2, .ref t3, .int u2, .int u3, .int u4, .int u5, .int u6, .int u7, .int u8])), (t1, .inl (cy 1, 4, .inl (fl))), (t2, .inl (cy 0, 3, .inl (fb))), (t3, .inl (cy 1, 5, .inl (fd)))] sz) := by
  refine z_of (Qc := fun A => zQi D ((q_X1_strikeBumper cy t0 t1 t2 t3 u1 u2 u3 u5 u7 u8 fl fd) (n_X1_strikeBumper u1 u4 u6 u7 fb k)) A ((n_X1_strikeBumper u1 u4 u6 u7 fb k).1)) (by decide +kernel) (Nat.le_of_ble_eq_true rfl) rfl ?_
  intro pG eN sT mI below meth cO A ls C hRT hnm hA hP hD hS hE0 hl
  have hX := C.x
  have hB := C.b
  refine lv_aload_n hX hB dX1_strikeBumper_0 rfl (lv_at hl 0 rfl) ?_
  refine z_callVv (isC := [0, 1, 2, 3]) (isR := []) (isO := [0, 1, 2, 3]) (n_X1_countHit u4 u6 u7) (q_X1_countHit cy t0 t1 t2 t3 u1 u2 u3 u5 u7 u8 fl fb fd) (fun o_1 => [(t0, .inr (4, [.int u1, .ref t1, .ref t2, .ref t3, .int u2, .int u3, .int o_1.1, .int u5, .int o_1.2, .int u7, .int u8])), (t1, .inl (cy 1, 4, .inl (fl))), (t2, .inl (cy 0, 3, .inl (fb))), (t3, .inl (cy 1, 5, .inl (fd)))]) (c_X1_countHit l hE D cy t0 t1 t2 t3 u1 u2 u3 u4 u5 u6 u7 u8 fl fb fd ) hE C zs_X1_62 ⟨Nat.le_of_ble_eq_true rfl, Nat.le_of_ble_eq_true rfl⟩ hP hD hS hA hE0 ⟨rfl, rfl, rfl, by decide, rfl, rfl, rfl⟩ 0 rfl rfl rfl rfl hl.1 (Nat.le_of_ble_eq_true rfl) rfl dX1_strikeBumper_1 ⟨Nat.le_of_ble_eq_true rfl, Nat.le_of_ble_eq_true rfl⟩ (fun o_1 H locs eo_1 hP hD hS => ?_)
  refine lv_aload_n hX hB dX1_strikeBumper_4 rfl (lv_at hl 0 rfl) ?_
  refine fg_X1_45 C hP 0 rfl rfl dX1_strikeBumper_5 ?_
  refine lv_if_eq (tgt := 13) hX hB dX1_strikeBumper_8 (by decide) (fun c_2 => ?_) (fun c_2 => ?_)
  · refine lv_aload_n hX hB dX1_strikeBumper_13 rfl (lv_at hl 0 rfl) ?_
    refine fg_X1_19 C hP 0 rfl rfl dX1_strikeBumper_14 ?_
    refine lv_iload_n hX hB dX1_strikeBumper_17 rfl (lv_at hl 1 rfl) ?_
    refine z_iald C hP 2 rfl (k := k) hx (by omega) (by decide) (v := fb k) rfl dX1_strikeBumper_18 ?_
    refine lv_istore_n (lv' := [(2, .int (fb k)), (0, .ref t0), (1, .int x)]) hX hB dX1_strikeBumper_19 rfl hl (by decide) rfl (fun ls hl => ?_)
    refine lv_aload_n hX hB dX1_strikeBumper_20 rfl (lv_at hl 1 rfl) ?_
    refine fg_X1_19 C hP 0 rfl rfl dX1_strikeBumper_21 ?_
    refine lv_iload_n hX hB dX1_strikeBumper_24 rfl (lv_at hl 2 rfl) ?_
    refine lv_iload_n hX hB dX1_strikeBumper_25 rfl (lv_at hl 0 rfl) ?_
    refine lv_bipush (v := 10) hX hB dX1_strikeBumper_26 (by decide) ?_
    refine z_iadd (v := (fb k) + 10) C dX1_strikeBumper_28 rfl ?_
    refine lv_sipush (v := 200) hX hB dX1_strikeBumper_29 (by decide) ?_
    refine va_mmin hX hB (C.2.2.1.trans hl.1.symm) C.o (C.ts _ zm305) (C.ts _ zm198) (C.ts _ zm199) (C.ts _ zm200) (Nat.le_of_ble_eq_true rfl) (Nat.le_of_ble_eq_true rfl) (Nat.le_of_ble_eq_true rfl) (Nat.le_of_ble_eq_true rfl) dX1_strikeBumper_32 ?_
    refine z_iast C hP hD hS 2 rfl (k := k) hx (by omega) (by decide) (w' := [(t0, .inr (4, [.int u1, .ref t1, .ref t2, .ref t3, .int u2, .int u3, .int o_1.1, .int u5, .int o_1.2, .int u7, .int u8])), (t1, .inl (cy 1, 4, .inl (fl))), (t2, .inl (cy 0, 3, .inl (upd fb k (if 200 < ((fb k) + 10) then 200 else (fb k) + 10)))), (t3, .inl (cy 1, 5, .inl (fd)))]) rfl dX1_strikeBumper_35 (fun H locs hP hD hS => ?_)
    refine lv_iload_n hX hB dX1_strikeBumper_36 rfl (lv_at hl 0 rfl) ?_
    refine lv_aload_n hX hB dX1_strikeBumper_37 rfl (lv_at hl 1 rfl) ?_
    refine fg_X1_9 C hP 0 rfl rfl dX1_strikeBumper_38 ?_
    refine z_imul (v := (fb k) * u1) C dX1_strikeBumper_41 rfl ?_
    exact z_iret' ((fb k) * u1, o_1.1, o_1.2, upd fb k (if 200 < ((fb k) + 10) then 200 else (fb k) + 10)) (w' := q_X1_strikeBumper cy t0 t1 t2 t3 u1 u2 u3 u5 u7 u8 fl fd) (r0 := (fun (o : Int32 × Int32 × Int32 × (Nat → Int32)) => o.1)) (by simp only [n_X1_strikeBumper, ← eo_1, if_pos c_2]) C hRT hP hD hS (Nat.le_of_ble_eq_true rfl) (Nat.le_of_ble_eq_true rfl) rfl rfl dX1_strikeBumper_42
  · refine lv_iconst (v := 0) hX hB dX1_strikeBumper_11 (by decide) ?_
    exact z_iret' (0, o_1.1, o_1.2, fb) (w' := q_X1_strikeBumper cy t0 t1 t2 t3 u1 u2 u3 u5 u7 u8 fl fd) (r0 := (fun (o : Int32 × Int32 × Int32 × (Nat → Int32)) => o.1)) (by simp only [n_X1_strikeBumper, ← eo_1, if_neg c_2]) C hRT hP hD hS (Nat.le_of_ble_eq_true rfl) (Nat.le_of_ble_eq_true rfl) rfl rfl dX1_strikeBumper_12

def n_X1_strikeTarget (u1 : Int32) (u2 : Int32) (u3 : Int32) (u4 : Int32) (u6 : Int32) (u7 : Int32) (fd : Nat → Int32) (k : Nat) : Int32 × Int32 × Int32 × Int32 × Int32 × (Nat → Int32) :=
  let o_1 := n_X1_countHit u4 u6 u7
  if u7 = 0 then
    if fd k = 0 then
      let o_4 := n_X8_allTrue5 (upd fd k 1)
      if o_4 = 0 then
        (200 * u1, u2, u3 + 1, o_1.1, o_1.2, upd fd k 1)
      else
        (200 * u1, u2 + 1, (u3 + 1) + 3, o_1.1, o_1.2, upd (upd (upd (upd (upd (upd fd k 1) 0 0) 1 0) 2 0) 3 0) 4 0)
    else
      (20 * u1, u2, u3, o_1.1, o_1.2, fd)
  else
    (0, u2, u3, o_1.1, o_1.2, fd)
def q_X1_strikeTarget (cy : Nat → ClassId) (t0 : Nat) (t1 : Nat) (t2 : Nat) (t3 : Nat) (u1 : Int32) (u5 : Int32) (u7 : Int32) (u8 : Int32) (fl : Nat → Int32) (fb : Nat → Int32) (o : Int32 × Int32 × Int32 × Int32 × Int32 × (Nat → Int32)) : va_W := [(t0, .inr (4, [.int u1, .ref t1, .ref t2, .ref t3, .int o.2.1, .int o.2.2.1, .int o.2.2.2.1, .int u5, .int o.2.2.2.2.1, .int u7, .int u8])), (t1, .inl (cy 1, 4, .inl (fl))), (t2, .inl (cy 0, 3, .inl (fb))), (t3, .inl (cy 1, 5, .inl (o.2.2.2.2.2)))]
theorem k_X1_strikeTarget (u1 : Int32) (u2 : Int32) (u3 : Int32) (u4 : Int32) (u6 : Int32) (u7 : Int32) (fd : Nat → Int32) (k : Nat)  (j : Nat) (hj : j < 0) : (n_X1_strikeTarget u1 u2 u3 u4 u6 u7 fd k).2.2.2.2.2 j = fd j := by
  simp only [n_X1_strikeTarget]
  repeat (any_goals split)
  all_goals (try simp (disch := omega) only [pk_un])
set_option maxHeartbeats 4000000 in
set_option maxRecDepth 100000 in
theorem c_X1_strikeTarget (l : Launch) {E : zEn} (hE : zEok E) (D : zG) (cy : Nat → ClassId) (hO : zOut E) (t0 t1 t2 t3 : Nat) (u1 : Int32) (u2 : Int32) (u3 : Int32) (u4 : Int32) (u5 : Int32) (u6 : Int32) (u7 : Int32) (u8 : Int32) (fl : Nat → Int32) (fb : Nat → Int32) (fd : Nat → Int32) (x : Int32) (k : Nat) (hx : zi x k) (hxb : k ≤ 4) (sz : Nat) : Met l yX1_strikeTarget (zws yX1_strikeTarget cX1_strikeTarget 2 (some .int)) { frames := 2, cells := 0, slots := 0, locals := 34 } (zPre E D cy [.ref t0, .int x] [(t0, .inr (4, [.int u1, .ref t1, .ref t2, .ref t3, .int u2, .int u3, .int u4, .int u5, .int u6, .int u7, .int u8])), (t1, .inl (cy 1, 4, .inl (fl))), (t2, .inl (cy 0, 3, .inl (fb))), (t3, .inl (cy 1, 5, .inl (fd)))] sz) (zQi D ((q_X1_strikeTarget cy t0 t1 t2 t3 u1 u5 u7 u8 fl fb) (n_X1_strikeTarget u1 u2 u3 u4 u6 u7 fd k)) (va_A [(t0, .inr (4, [.int u1, .ref t1, .ref t2, .ref t3, .int u2, .int u3, .int u4, .int u5, .int u6, .int u7, .int u8])), (t1, .inl (cy 1, 4, .inl (fl))), (t2, .inl (cy 0, 3, .inl (fb))), (t3, .inl (cy 1, 5, .inl (fd)))] sz) ((n_X1_strikeTarget u1 u2 u3 u4 u6 u7 fd k).1)) 0 0 (va_A [(t0, .inr (4, [.int u1, .ref t1, .ref t2, .ref t3, .int u2, .int u3, .int u4, .int u5, .int u6, .int u7, .int u8])), (t1, .inl (cy 1, 4, .inl (fl))), (t2, .inl (cy 0, 3, .inl (fb))), (t3, .inl (cy 1, 5, .inl (fd)))] sz) := by
  refine z_of (Qc := fun A => zQi D ((q_X1_strikeTarget cy t0 t1 t2 t3 u1 u5 u7 u8 fl fb) (n_X1_strikeTarget u1 u2 u3 u4 u6 u7 fd k)) A ((n_X1_strikeTarget u1 u2 u3 u4 u6 u7 fd k).1)) (by decide +kernel) (Nat.le_of_ble_eq_true rfl) rfl ?_
  intro pG eN sT mI below meth cO A ls C hRT hnm hA hP hD hS hE0 hl
  have hX := C.x
  have hB := C.b
  refine lv_aload_n hX hB dX1_strikeTarget_0 rfl (lv_at hl 0 rfl) ?_
  refine z_callVv (isC := [0, 1, 2, 3]) (isR := []) (isO := [0, 1, 2, 3]) (n_X1_countHit u4 u6 u7) (q_X1_countHit cy t0 t1 t2 t3 u1 u2 u3 u5 u7 u8 fl fb fd) (fun o_1 => [(t0, .inr (4, [.int u1, .ref t1, .ref t2, .ref t3, .int u2, .int u3, .int o_1.1, .int u5, .int o_1.2, .int u7, .int u8])), (t1, .inl (cy 1, 4, .inl (fl))), (t2, .inl (cy 0, 3, .inl (fb))), (t3, .inl (cy 1, 5, .inl (fd)))]) (c_X1_countHit l hE D cy t0 t1 t2 t3 u1 u2 u3 u4 u5 u6 u7 u8 fl fb fd ) hE C zs_X1_62 ⟨Nat.le_of_ble_eq_true rfl, Nat.le_of_ble_eq_true rfl⟩ hP hD hS hA hE0 ⟨rfl, rfl, rfl, by decide, rfl, rfl, rfl⟩ 0 rfl rfl rfl rfl hl.1 (Nat.le_of_ble_eq_true rfl) rfl dX1_strikeTarget_1 ⟨Nat.le_of_ble_eq_true rfl, Nat.le_of_ble_eq_true rfl⟩ (fun o_1 H locs eo_1 hP hD hS => ?_)
  refine lv_aload_n hX hB dX1_strikeTarget_4 rfl (lv_at hl 0 rfl) ?_
  refine fg_X1_45 C hP 0 rfl rfl dX1_strikeTarget_5 ?_
  refine lv_if_eq (tgt := 13) hX hB dX1_strikeTarget_8 (by decide) (fun c_2 => ?_) (fun c_2 => ?_)
  · refine lv_aload_n hX hB dX1_strikeTarget_13 rfl (lv_at hl 0 rfl) ?_
    refine fg_X1_23 C hP 0 rfl rfl dX1_strikeTarget_14 ?_
    refine lv_iload_n hX hB dX1_strikeTarget_17 rfl (lv_at hl 1 rfl) ?_
    refine z_zald C hP 3 rfl (k := k) hx (by omega) (by decide) (v := fd k) rfl dX1_strikeTarget_18 ?_
    refine lv_if_eq (tgt := 30) hX hB dX1_strikeTarget_19 (by decide) (fun c_3 => ?_) (fun c_3 => ?_)
    · refine lv_aload_n hX hB dX1_strikeTarget_30 rfl (lv_at hl 0 rfl) ?_
      refine fg_X1_23 C hP 0 rfl rfl dX1_strikeTarget_31 ?_
      refine lv_iload_n hX hB dX1_strikeTarget_34 rfl (lv_at hl 1 rfl) ?_
      refine lv_iconst (v := 1) hX hB dX1_strikeTarget_35 (by decide) ?_
      refine z_zast C hP hD hS 3 rfl (k := k) hx (by omega) (by decide) (znar (Or.inr rfl)) (w' := [(t0, .inr (4, [.int u1, .ref t1, .ref t2, .ref t3, .int u2, .int u3, .int o_1.1, .int u5, .int o_1.2, .int u7, .int u8])), (t1, .inl (cy 1, 4, .inl (fl))), (t2, .inl (cy 0, 3, .inl (fb))), (t3, .inl (cy 1, 5, .inl (upd fd k 1)))]) rfl dX1_strikeTarget_36 (fun H locs hP hD hS => ?_)
      refine lv_aload_n hX hB dX1_strikeTarget_37 rfl (lv_at hl 0 rfl) ?_
      refine lv_dup hX hB dX1_strikeTarget_38 rfl ?_
      refine fg_X1_33 C hP 0 rfl rfl dX1_strikeTarget_39 ?_
      refine lv_iconst (v := 1) hX hB dX1_strikeTarget_42 (by decide) ?_
      refine z_iadd (v := u3 + 1) C dX1_strikeTarget_43 rfl ?_
      refine fp_X1_33 C hP hD hS 0 rfl rfl rfl (Nat.le_of_ble_eq_true rfl) (w' := [(t0, .inr (4, [.int u1, .ref t1, .ref t2, .ref t3, .int u2, .int (u3 + 1), .int o_1.1, .int u5, .int o_1.2, .int u7, .int u8])), (t1, .inl (cy 1, 4, .inl (fl))), (t2, .inl (cy 0, 3, .inl (fb))), (t3, .inl (cy 1, 5, .inl (upd fd k 1)))]) rfl dX1_strikeTarget_44 (fun H locs hP hD hS => ?_)
      refine lv_aload_n hX hB dX1_strikeTarget_47 rfl (lv_at hl 0 rfl) ?_
      refine fg_X1_23 C hP 0 rfl rfl dX1_strikeTarget_48 ?_
      refine z_callSNi (isC := [3]) (isR := [0, 1, 2]) (isO := [0, 1, 2, 3]) (n_X8_allTrue5 (upd fd k 1)) (q_X8_allTrue5 cy t3 (upd fd k 1)) (fun o_4 => [(t0, .inr (4, [.int u1, .ref t1, .ref t2, .ref t3, .int u2, .int (u3 + 1), .int o_1.1, .int u5, .int o_1.2, .int u7, .int u8])), (t1, .inl (cy 1, 4, .inl (fl))), (t2, .inl (cy 0, 3, .inl (fb))), (t3, .inl (cy 1, 5, .inl (upd fd k 1)))]) (fun o_4 => o_4) (c_X8_allTrue5 l hE D cy t3 (upd fd k 1) ) hE C zs_X1_65 ((hO _ _ _ hE0).nX1_65) ⟨Nat.le_of_ble_eq_true rfl, Nat.le_of_ble_eq_true rfl⟩ hP hD hS hA hE0 ⟨rfl, rfl, rfl, by decide, rfl, rfl, rfl⟩ rfl hl.1 (Nat.le_of_ble_eq_true rfl) rfl dX1_strikeTarget_51 ⟨Nat.le_of_ble_eq_true rfl, Nat.le_of_ble_eq_true rfl⟩ (fun o_4 H locs eo_4 hP hD hS => ?_)
      refine lv_if_eq (tgt := 84) hX hB dX1_strikeTarget_54 (by decide) (fun c_5 => ?_) (fun c_5 => ?_)
      · refine lv_sipush (v := 200) hX hB dX1_strikeTarget_84 (by decide) ?_
        refine lv_aload_n hX hB dX1_strikeTarget_87 rfl (lv_at hl 0 rfl) ?_
        refine fg_X1_9 C hP 0 rfl rfl dX1_strikeTarget_88 ?_
        refine z_imul (v := 200 * u1) C dX1_strikeTarget_91 rfl ?_
        exact z_iret' (200 * u1, u2, u3 + 1, o_1.1, o_1.2, upd fd k 1) (w' := q_X1_strikeTarget cy t0 t1 t2 t3 u1 u5 u7 u8 fl fb) (r0 := (fun (o : Int32 × Int32 × Int32 × Int32 × Int32 × (Nat → Int32)) => o.1)) (by simp only [n_X1_strikeTarget, ← eo_1, if_pos c_2, if_pos c_3, ← eo_4, if_pos c_5]) C hRT hP hD hS (Nat.le_of_ble_eq_true rfl) (Nat.le_of_ble_eq_true rfl) rfl rfl dX1_strikeTarget_92
      · refine lv_aload_n hX hB dX1_strikeTarget_57 rfl (lv_at hl 0 rfl) ?_
        refine fg_X1_23 C hP 0 rfl rfl dX1_strikeTarget_58 ?_
        refine z_callSNv (isC := [3]) (isR := [0, 1, 2]) (isO := [0, 1, 2, 3]) (()) (q_X8_clearAll5 cy t3 (upd fd k 1)) (fun o_6 => [(t0, .inr (4, [.int u1, .ref t1, .ref t2, .ref t3, .int u2, .int (u3 + 1), .int o_1.1, .int u5, .int o_1.2, .int u7, .int u8])), (t1, .inl (cy 1, 4, .inl (fl))), (t2, .inl (cy 0, 3, .inl (fb))), (t3, .inl (cy 1, 5, .inl (upd (upd (upd (upd (upd (upd fd k 1) 0 0) 1 0) 2 0) 3 0) 4 0)))]) (c_X8_clearAll5 l hE D cy t3 (upd fd k 1) ) hE C zs_X1_26 ((hO _ _ _ hE0).nX1_26) ⟨Nat.le_of_ble_eq_true rfl, Nat.le_of_ble_eq_true rfl⟩ hP hD hS hA hE0 ⟨rfl, rfl, rfl, by decide, rfl, rfl, rfl⟩ rfl hl.1 (Nat.le_of_ble_eq_true rfl) rfl dX1_strikeTarget_61 ⟨Nat.le_of_ble_eq_true rfl, Nat.le_of_ble_eq_true rfl⟩ (fun o_6 H locs eo_6 hP hD hS => ?_)
        refine lv_aload_n hX hB dX1_strikeTarget_64 rfl (lv_at hl 0 rfl) ?_
        refine lv_dup hX hB dX1_strikeTarget_65 rfl ?_
        refine fg_X1_33 C hP 0 rfl rfl dX1_strikeTarget_66 ?_
        refine lv_iconst (v := 3) hX hB dX1_strikeTarget_69 (by decide) ?_
        refine z_iadd (v := (u3 + 1) + 3) C dX1_strikeTarget_70 rfl ?_
        refine fp_X1_33 C hP hD hS 0 rfl rfl rfl (Nat.le_of_ble_eq_true rfl) (w' := [(t0, .inr (4, [.int u1, .ref t1, .ref t2, .ref t3, .int u2, .int ((u3 + 1) + 3), .int o_1.1, .int u5, .int o_1.2, .int u7, .int u8])), (t1, .inl (cy 1, 4, .inl (fl))), (t2, .inl (cy 0, 3, .inl (fb))), (t3, .inl (cy 1, 5, .inl (upd (upd (upd (upd (upd (upd fd k 1) 0 0) 1 0) 2 0) 3 0) 4 0)))]) rfl dX1_strikeTarget_71 (fun H locs hP hD hS => ?_)
        refine lv_aload_n hX hB dX1_strikeTarget_74 rfl (lv_at hl 0 rfl) ?_
        refine lv_dup hX hB dX1_strikeTarget_75 rfl ?_
        refine fg_X1_30 C hP 0 rfl rfl dX1_strikeTarget_76 ?_
        refine lv_iconst (v := 1) hX hB dX1_strikeTarget_79 (by decide) ?_
        refine z_iadd (v := u2 + 1) C dX1_strikeTarget_80 rfl ?_
        refine fp_X1_30 C hP hD hS 0 rfl rfl rfl (Nat.le_of_ble_eq_true rfl) (w' := [(t0, .inr (4, [.int u1, .ref t1, .ref t2, .ref t3, .int (u2 + 1), .int ((u3 + 1) + 3), .int o_1.1, .int u5, .int o_1.2, .int u7, .int u8])), (t1, .inl (cy 1, 4, .inl (fl))), (t2, .inl (cy 0, 3, .inl (fb))), (t3, .inl (cy 1, 5, .inl (upd (upd (upd (upd (upd (upd fd k 1) 0 0) 1 0) 2 0) 3 0) 4 0)))]) rfl dX1_strikeTarget_81 (fun H locs hP hD hS => ?_)
        refine lv_sipush (v := 200) hX hB dX1_strikeTarget_84 (by decide) ?_
        refine lv_aload_n hX hB dX1_strikeTarget_87 rfl (lv_at hl 0 rfl) ?_
        refine fg_X1_9 C hP 0 rfl rfl dX1_strikeTarget_88 ?_
        refine z_imul (v := 200 * u1) C dX1_strikeTarget_91 rfl ?_
        exact z_iret' (200 * u1, u2 + 1, (u3 + 1) + 3, o_1.1, o_1.2, upd (upd (upd (upd (upd (upd fd k 1) 0 0) 1 0) 2 0) 3 0) 4 0) (w' := q_X1_strikeTarget cy t0 t1 t2 t3 u1 u5 u7 u8 fl fb) (r0 := (fun (o : Int32 × Int32 × Int32 × Int32 × Int32 × (Nat → Int32)) => o.1)) (by simp only [n_X1_strikeTarget, ← eo_1, if_pos c_2, if_pos c_3, ← eo_4, if_neg c_5]) C hRT hP hD hS (Nat.le_of_ble_eq_true rfl) (Nat.le_of_ble_eq_true rfl) rfl rfl dX1_strikeTarget_92
    · refine lv_bipush (v := 20) hX hB dX1_strikeTarget_22 (by decide) ?_
      refine lv_aload_n hX hB dX1_strikeTarget_24 rfl (lv_at hl 0 rfl) ?_
      refine fg_X1_9 C hP 0 rfl rfl dX1_strikeTarget_25 ?_
      refine z_imul (v := 20 * u1) C dX1_strikeTarget_28 rfl ?_
      exact z_iret' (20 * u1, u2, u3, o_1.1, o_1.2, fd) (w' := q_X1_strikeTarget cy t0 t1 t2 t3 u1 u5 u7 u8 fl fb) (r0 := (fun (o : Int32 × Int32 × Int32 × Int32 × Int32 × (Nat → Int32)) => o.1)) (by simp only [n_X1_strikeTarget, ← eo_1, if_pos c_2, if_neg c_3]) C hRT hP hD hS (Nat.le_of_ble_eq_true rfl) (Nat.le_of_ble_eq_true rfl) rfl rfl dX1_strikeTarget_29
  · refine lv_iconst (v := 0) hX hB dX1_strikeTarget_11 (by decide) ?_
    exact z_iret' (0, u2, u3, o_1.1, o_1.2, fd) (w' := q_X1_strikeTarget cy t0 t1 t2 t3 u1 u5 u7 u8 fl fb) (r0 := (fun (o : Int32 × Int32 × Int32 × Int32 × Int32 × (Nat → Int32)) => o.1)) (by simp only [n_X1_strikeTarget, ← eo_1, if_neg c_2]) C hRT hP hD hS (Nat.le_of_ble_eq_true rfl) (Nat.le_of_ble_eq_true rfl) rfl rfl dX1_strikeTarget_12

def n_X1_canBeSaved (u6 : Int32) (u7 : Int32) (u8 : Int32) : Int32 :=
  if u7 = 0 then
    if 3 < u6 then
      0
    else
      if u8 = 0 then
        1
      else
        0
  else
    0
def q_X1_canBeSaved (cy : Nat → ClassId) (t0 : Nat) (t1 : Nat) (t2 : Nat) (t3 : Nat) (u1 : Int32) (u2 : Int32) (u3 : Int32) (u4 : Int32) (u5 : Int32) (u6 : Int32) (u7 : Int32) (u8 : Int32) (fl : Nat → Int32) (fb : Nat → Int32) (fd : Nat → Int32) (o : Int32) : va_W := [(t0, .inr (4, [.int u1, .ref t1, .ref t2, .ref t3, .int u2, .int u3, .int u4, .int u5, .int u6, .int u7, .int u8])), (t1, .inl (cy 1, 4, .inl (fl))), (t2, .inl (cy 0, 3, .inl (fb))), (t3, .inl (cy 1, 5, .inl (fd)))]
theorem b_X1_canBeSaved (u6 : Int32) (u7 : Int32) (u8 : Int32) : (n_X1_canBeSaved u6 u7 u8) = 0 ∨ (n_X1_canBeSaved u6 u7 u8) = 1 := by
  simp only [n_X1_canBeSaved]
  repeat (any_goals split)
  all_goals (first | exact Or.inl rfl | exact Or.inr rfl)
set_option maxHeartbeats 4000000 in
set_option maxRecDepth 100000 in
theorem c_X1_canBeSaved (l : Launch) {E : zEn} (hE : zEok E) (D : zG) (cy : Nat → ClassId) (t0 t1 t2 t3 : Nat) (u1 : Int32) (u2 : Int32) (u3 : Int32) (u4 : Int32) (u5 : Int32) (u6 : Int32) (u7 : Int32) (u8 : Int32) (fl : Nat → Int32) (fb : Nat → Int32) (fd : Nat → Int32)  (sz : Nat) : Met l yX1_canBeSaved (zws yX1_canBeSaved cX1_canBeSaved 1 (some .boolean)) { frames := 0, cells := 0, slots := 0, locals := 0 } (zPre E D cy [.ref t0] [(t0, .inr (4, [.int u1, .ref t1, .ref t2, .ref t3, .int u2, .int u3, .int u4, .int u5, .int u6, .int u7, .int u8])), (t1, .inl (cy 1, 4, .inl (fl))), (t2, .inl (cy 0, 3, .inl (fb))), (t3, .inl (cy 1, 5, .inl (fd)))] sz) (zQi D ((q_X1_canBeSaved cy t0 t1 t2 t3 u1 u2 u3 u4 u5 u6 u7 u8 fl fb fd) (n_X1_canBeSaved u6 u7 u8)) (va_A [(t0, .inr (4, [.int u1, .ref t1, .ref t2, .ref t3, .int u2, .int u3, .int u4, .int u5, .int u6, .int u7, .int u8])), (t1, .inl (cy 1, 4, .inl (fl))), (t2, .inl (cy 0, 3, .inl (fb))), (t3, .inl (cy 1, 5, .inl (fd)))] sz) ((n_X1_canBeSaved u6 u7 u8))) 0 0 (va_A [(t0, .inr (4, [.int u1, .ref t1, .ref t2, .ref t3, .int u2, .int u3, .int u4, .int u5, .int u6, .int u7, .int u8])), (t1, .inl (cy 1, 4, .inl (fl))), (t2, .inl (cy 0, 3, .inl (fb))), (t3, .inl (cy 1, 5, .inl (fd)))] sz) := by
  refine z_of (Qc := fun A => zQi D ((q_X1_canBeSaved cy t0 t1 t2 t3 u1 u2 u3 u4 u5 u6 u7 u8 fl fb fd) (n_X1_canBeSaved u6 u7 u8)) A ((n_X1_canBeSaved u6 u7 u8))) (by decide +kernel) (Nat.le_of_ble_eq_true rfl) rfl ?_
  intro pG eN sT mI below meth cO A ls C hRT hnm hA hP hD hS hE0 hl
  have hX := C.x
  have hB := C.b
  refine lv_aload_n hX hB dX1_canBeSaved_0 rfl (lv_at hl 0 rfl) ?_
  refine fg_X1_45 C hP 0 rfl rfl dX1_canBeSaved_1 ?_
  refine lv_if_ne (tgt := 26) hX hB dX1_canBeSaved_4 (by decide) (fun c_1 => ?_) (fun c_1 => ?_)
  · refine lv_iconst (v := 0) hX hB dX1_canBeSaved_26 (by decide) ?_
    exact z_zret' 0 (w' := q_X1_canBeSaved cy t0 t1 t2 t3 u1 u2 u3 u4 u5 u6 u7 u8 fl fb fd) (r0 := (fun (o : Int32) => o)) (by simp only [n_X1_canBeSaved, if_neg c_1]) C hRT (zb01 (Or.inl rfl)) hP hD hS (Nat.le_of_ble_eq_true rfl) (Nat.le_of_ble_eq_true rfl) rfl rfl dX1_canBeSaved_27
  · refine lv_aload_n hX hB dX1_canBeSaved_7 rfl (lv_at hl 0 rfl) ?_
    refine fg_X1_42 C hP 0 rfl rfl dX1_canBeSaved_8 ?_
    refine lv_iconst (v := 3) hX hB dX1_canBeSaved_11 (by decide) ?_
    refine lv_icmp_gt (tgt := 26) hX hB dX1_canBeSaved_12 (by decide) (fun c_2 => ?_) (fun c_2 => ?_)
    · refine lv_iconst (v := 0) hX hB dX1_canBeSaved_26 (by decide) ?_
      exact z_zret' 0 (w' := q_X1_canBeSaved cy t0 t1 t2 t3 u1 u2 u3 u4 u5 u6 u7 u8 fl fb fd) (r0 := (fun (o : Int32) => o)) (by simp only [n_X1_canBeSaved, if_pos c_1, if_pos c_2]) C hRT (zb01 (Or.inl rfl)) hP hD hS (Nat.le_of_ble_eq_true rfl) (Nat.le_of_ble_eq_true rfl) rfl rfl dX1_canBeSaved_27
    · refine lv_aload_n hX hB dX1_canBeSaved_15 rfl (lv_at hl 0 rfl) ?_
      refine fg_X1_49 C hP 0 rfl rfl dX1_canBeSaved_16 ?_
      refine lv_if_ne (tgt := 26) hX hB dX1_canBeSaved_19 (by decide) (fun c_3 => ?_) (fun c_3 => ?_)
      · refine lv_iconst (v := 0) hX hB dX1_canBeSaved_26 (by decide) ?_
        exact z_zret' 0 (w' := q_X1_canBeSaved cy t0 t1 t2 t3 u1 u2 u3 u4 u5 u6 u7 u8 fl fb fd) (r0 := (fun (o : Int32) => o)) (by simp only [n_X1_canBeSaved, if_pos c_1, if_neg c_2, if_neg c_3]) C hRT (zb01 (Or.inl rfl)) hP hD hS (Nat.le_of_ble_eq_true rfl) (Nat.le_of_ble_eq_true rfl) rfl rfl dX1_canBeSaved_27
      · refine lv_iconst (v := 1) hX hB dX1_canBeSaved_22 (by decide) ?_
        refine lv_goto (tgt := 27) hX hB dX1_canBeSaved_23 (by decide) ?_
        exact z_zret' 1 (w' := q_X1_canBeSaved cy t0 t1 t2 t3 u1 u2 u3 u4 u5 u6 u7 u8 fl fb fd) (r0 := (fun (o : Int32) => o)) (by simp only [n_X1_canBeSaved, if_pos c_1, if_neg c_2, if_pos c_3]) C hRT (zb01 (Or.inr rfl)) hP hD hS (Nat.le_of_ble_eq_true rfl) (Nat.le_of_ble_eq_true rfl) rfl rfl dX1_canBeSaved_27

def n_X1_bonusPoints (u1 : Int32) (u3 : Int32) (u7 : Int32) : Int32 :=
  if u7 = 0 then
    (100 * u3) * u1
  else
    0
def q_X1_bonusPoints (cy : Nat → ClassId) (t0 : Nat) (t1 : Nat) (t2 : Nat) (t3 : Nat) (u1 : Int32) (u2 : Int32) (u3 : Int32) (u4 : Int32) (u5 : Int32) (u6 : Int32) (u7 : Int32) (u8 : Int32) (fl : Nat → Int32) (fb : Nat → Int32) (fd : Nat → Int32) (o : Int32) : va_W := [(t0, .inr (4, [.int u1, .ref t1, .ref t2, .ref t3, .int u2, .int u3, .int u4, .int u5, .int u6, .int u7, .int u8])), (t1, .inl (cy 1, 4, .inl (fl))), (t2, .inl (cy 0, 3, .inl (fb))), (t3, .inl (cy 1, 5, .inl (fd)))]
set_option maxHeartbeats 4000000 in
set_option maxRecDepth 100000 in
theorem c_X1_bonusPoints (l : Launch) {E : zEn} (hE : zEok E) (D : zG) (cy : Nat → ClassId) (t0 t1 t2 t3 : Nat) (u1 : Int32) (u2 : Int32) (u3 : Int32) (u4 : Int32) (u5 : Int32) (u6 : Int32) (u7 : Int32) (u8 : Int32) (fl : Nat → Int32) (fb : Nat → Int32) (fd : Nat → Int32)  (sz : Nat) : Met l yX1_bonusPoints (zws yX1_bonusPoints cX1_bonusPoints 1 (some .int)) { frames := 0, cells := 0, slots := 0, locals := 0 } (zPre E D cy [.ref t0] [(t0, .inr (4, [.int u1, .ref t1, .ref t2, .ref t3, .int u2, .int u3, .int u4, .int u5, .int u6, .int u7, .int u8])), (t1, .inl (cy 1, 4, .inl (fl))), (t2, .inl (cy 0, 3, .inl (fb))), (t3, .inl (cy 1, 5, .inl (fd)))] sz) (zQi D ((q_X1_bonusPoints cy t0 t1 t2 t3 u1 u2 u3 u4 u5 u6 u7 u8 fl fb fd) (n_X1_bonusPoints u1 u3 u7)) (va_A [(t0, .inr (4, [.int u1, .ref t1, .ref t2, .ref t3, .int u2, .int u3, .int u4, .int u5, .int u6, .int u7, .int u8])), (t1, .inl (cy 1, 4, .inl (fl))), (t2, .inl (cy 0, 3, .inl (fb))), (t3, .inl (cy 1, 5, .inl (fd)))] sz) ((n_X1_bonusPoints u1 u3 u7))) 0 0 (va_A [(t0, .inr (4, [.int u1, .ref t1, .ref t2, .ref t3, .int u2, .int u3, .int u4, .int u5, .int u6, .int u7, .int u8])), (t1, .inl (cy 1, 4, .inl (fl))), (t2, .inl (cy 0, 3, .inl (fb))), (t3, .inl (cy 1, 5, .inl (fd)))] sz) := by
  refine z_of (Qc := fun A => zQi D ((q_X1_bonusPoints cy t0 t1 t2 t3 u1 u2 u3 u4 u5 u6 u7 u8 fl fb fd) (n_X1_bonusPoints u1 u3 u7)) A ((n_X1_bonusPoints u1 u3 u7))) (by decide +kernel) (Nat.le_of_ble_eq_true rfl) rfl ?_
  intro pG eN sT mI below meth cO A ls C hRT hnm hA hP hD hS hE0 hl
  have hX := C.x
  have hB := C.b
  refine lv_aload_n hX hB dX1_bonusPoints_0 rfl (lv_at hl 0 rfl) ?_
  refine fg_X1_45 C hP 0 rfl rfl dX1_bonusPoints_1 ?_
  refine lv_if_eq (tgt := 11) hX hB dX1_bonusPoints_4 (by decide) (fun c_1 => ?_) (fun c_1 => ?_)
  · refine lv_bipush (v := 100) hX hB dX1_bonusPoints_11 (by decide) ?_
    refine lv_aload_n hX hB dX1_bonusPoints_13 rfl (lv_at hl 0 rfl) ?_
    refine fg_X1_33 C hP 0 rfl rfl dX1_bonusPoints_14 ?_
    refine z_imul (v := 100 * u3) C dX1_bonusPoints_17 rfl ?_
    refine lv_aload_n hX hB dX1_bonusPoints_18 rfl (lv_at hl 0 rfl) ?_
    refine fg_X1_9 C hP 0 rfl rfl dX1_bonusPoints_19 ?_
    refine z_imul (v := (100 * u3) * u1) C dX1_bonusPoints_22 rfl ?_
    exact z_iret' ((100 * u3) * u1) (w' := q_X1_bonusPoints cy t0 t1 t2 t3 u1 u2 u3 u4 u5 u6 u7 u8 fl fb fd) (r0 := (fun (o : Int32) => o)) (by simp only [n_X1_bonusPoints, if_pos c_1]) C hRT hP hD hS (Nat.le_of_ble_eq_true rfl) (Nat.le_of_ble_eq_true rfl) rfl rfl dX1_bonusPoints_23
  · refine lv_iconst (v := 0) hX hB dX1_bonusPoints_7 (by decide) ?_
    refine lv_goto (tgt := 23) hX hB dX1_bonusPoints_8 (by decide) ?_
    exact z_iret' 0 (w' := q_X1_bonusPoints cy t0 t1 t2 t3 u1 u2 u3 u4 u5 u6 u7 u8 fl fb fd) (r0 := (fun (o : Int32) => o)) (by simp only [n_X1_bonusPoints, if_neg c_1]) C hRT hP hD hS (Nat.le_of_ble_eq_true rfl) (Nat.le_of_ble_eq_true rfl) rfl rfl dX1_bonusPoints_23

def n_X1_countedLanes (u1 : Int32) (u7 : Int32) (fl : Nat → Int32) : Int32 :=
  if u7 = 0 then
    if fl 0 = 0 then
      if fl 1 = 0 then
        if fl 2 = 0 then
          if fl 3 = 0 then
            400 * u1
          else
            300 * u1
        else
          if fl 3 = 0 then
            300 * u1
          else
            200 * u1
      else
        if fl 2 = 0 then
          if fl 3 = 0 then
            300 * u1
          else
            200 * u1
        else
          if fl 3 = 0 then
            200 * u1
          else
            100 * u1
    else
      if fl 1 = 0 then
        if fl 2 = 0 then
          if fl 3 = 0 then
            300 * u1
          else
            200 * u1
        else
          if fl 3 = 0 then
            200 * u1
          else
            100 * u1
      else
        if fl 2 = 0 then
          if fl 3 = 0 then
            200 * u1
          else
            100 * u1
        else
          if fl 3 = 0 then
            100 * u1
          else
            0 * u1
  else
    0
def q_X1_countedLanes (cy : Nat → ClassId) (t0 : Nat) (t1 : Nat) (t2 : Nat) (t3 : Nat) (u1 : Int32) (u2 : Int32) (u3 : Int32) (u4 : Int32) (u5 : Int32) (u6 : Int32) (u7 : Int32) (u8 : Int32) (fl : Nat → Int32) (fb : Nat → Int32) (fd : Nat → Int32) (o : Int32) : va_W := [(t0, .inr (4, [.int u1, .ref t1, .ref t2, .ref t3, .int u2, .int u3, .int u4, .int u5, .int u6, .int u7, .int u8])), (t1, .inl (cy 1, 4, .inl (fl))), (t2, .inl (cy 0, 3, .inl (fb))), (t3, .inl (cy 1, 5, .inl (fd)))]
set_option maxHeartbeats 4000000 in
set_option maxRecDepth 100000 in
theorem c_X1_countedLanes (l : Launch) {E : zEn} (hE : zEok E) (D : zG) (cy : Nat → ClassId) (t0 t1 t2 t3 : Nat) (u1 : Int32) (u2 : Int32) (u3 : Int32) (u4 : Int32) (u5 : Int32) (u6 : Int32) (u7 : Int32) (u8 : Int32) (fl : Nat → Int32) (fb : Nat → Int32) (fd : Nat → Int32)  (sz : Nat) : Met l yX1_countedLanes (zws yX1_countedLanes cX1_countedLanes 6 (some .int)) { frames := 0, cells := 0, slots := 0, locals := 0 } (zPre E D cy [.ref t0] [(t0, .inr (4, [.int u1, .ref t1, .ref t2, .ref t3, .int u2, .int u3, .int u4, .int u5, .int u6, .int u7, .int u8])), (t1, .inl (cy 1, 4, .inl (fl))), (t2, .inl (cy 0, 3, .inl (fb))), (t3, .inl (cy 1, 5, .inl (fd)))] sz) (zQi D ((q_X1_countedLanes cy t0 t1 t2 t3 u1 u2 u3 u4 u5 u6 u7 u8 fl fb fd) (n_X1_countedLanes u1 u7 fl)) (va_A [(t0, .inr (4, [.int u1, .ref t1, .ref t2, .ref t3, .int u2, .int u3, .int u4, .int u5, .int u6, .int u7, .int u8])), (t1, .inl (cy 1, 4, .inl (fl))), (t2, .inl (cy 0, 3, .inl (fb))), (t3, .inl (cy 1, 5, .inl (fd)))] sz) ((n_X1_countedLanes u1 u7 fl))) 0 0 (va_A [(t0, .inr (4, [.int u1, .ref t1, .ref t2, .ref t3, .int u2, .int u3, .int u4, .int u5, .int u6, .int u7, .int u8])), (t1, .inl (cy 1, 4, .inl (fl))), (t2, .inl (cy 0, 3, .inl (fb))), (t3, .inl (cy 1, 5, .inl (fd)))] sz) := by
  refine z_of (Qc := fun A => zQi D ((q_X1_countedLanes cy t0 t1 t2 t3 u1 u2 u3 u4 u5 u6 u7 u8 fl fb fd) (n_X1_countedLanes u1 u7 fl)) A ((n_X1_countedLanes u1 u7 fl))) (by decide +kernel) (Nat.le_of_ble_eq_true rfl) rfl ?_
  intro pG eN sT mI below meth cO A ls C hRT hnm hA hP hD hS hE0 hl
  have hX := C.x
  have hB := C.b
  refine lv_aload_n hX hB dX1_countedLanes_0 rfl (lv_at hl 0 rfl) ?_
  refine fg_X1_45 C hP 0 rfl rfl dX1_countedLanes_1 ?_
  refine lv_if_eq (tgt := 9) hX hB dX1_countedLanes_4 (by decide) (fun c_1 => ?_) (fun c_1 => ?_)
  · refine lv_iconst (v := 0) hX hB dX1_countedLanes_9 (by decide) ?_
    refine lv_istore_n (lv' := [(1, .int 0), (0, .ref t0)]) hX hB dX1_countedLanes_10 rfl hl (by decide) rfl (fun ls hl => ?_)
    refine lv_aload_n hX hB dX1_countedLanes_11 rfl (lv_at hl 1 rfl) ?_
    refine fg_X1_15 C hP 0 rfl rfl dX1_countedLanes_12 ?_
    refine lv_astore_n (lv' := [(2, .ref t1), (1, .int 0), (0, .ref t0)]) hX hB dX1_countedLanes_15 rfl hl (by decide) rfl (fun ls hl => ?_)
    refine lv_aload_n hX hB dX1_countedLanes_16 rfl (lv_at hl 0 rfl) ?_
    refine z_alen C hP 1 1 rfl rfl (v := 4) (show Int32.ofNat 4 = 4 from by decide) dX1_countedLanes_17 ?_
    refine lv_istore_n (lv' := [(3, .int 4), (2, .ref t1), (1, .int 0), (0, .ref t0)]) hX hB dX1_countedLanes_18 rfl hl (by decide) rfl (fun ls hl => ?_)
    refine lv_iconst (v := 0) hX hB dX1_countedLanes_19 (by decide) ?_
    refine lv_istore (lv' := [(4, .int 0), (3, .int 4), (2, .ref t1), (1, .int 0), (0, .ref t0)]) hX hB dX1_countedLanes_20 hl (by decide) rfl (fun ls hl => ?_)
    refine lv_iload hX hB dX1_countedLanes_22 (lv_at hl 0 rfl) ?_
    refine lv_iload_n hX hB dX1_countedLanes_24 rfl (lv_at hl 1 rfl) ?_
    refine lv_icmp_ge (tgt := 48) hX hB dX1_countedLanes_25 (by decide) (fun c => absurd c (by decide)) (fun _ => ?_)
    refine lv_aload_n hX hB dX1_countedLanes_28 rfl (lv_at hl 2 rfl) ?_
    refine lv_iload hX hB dX1_countedLanes_29 (lv_at hl 0 rfl) ?_
    refine z_zald C hP 1 rfl (k := 0) (zlit 0) (by decide) (by decide) (v := fl 0) rfl dX1_countedLanes_31 ?_
    refine lv_istore (lv' := [(5, .int (fl 0)), (4, .int 0), (3, .int 4), (2, .ref t1), (1, .int 0), (0, .ref t0)]) hX hB dX1_countedLanes_32 hl (by decide) rfl (fun ls hl => ?_)
    refine lv_iload hX hB dX1_countedLanes_34 (lv_at hl 0 rfl) ?_
    refine lv_if_ne (tgt := 42) hX hB dX1_countedLanes_36 (by decide) (fun c_2 => ?_) (fun c_2 => ?_)
    · refine lv_iinc (v := 1) (lv' := [(4, .int 1), (5, .int (fl 0)), (3, .int 4), (2, .ref t1), (1, .int 0), (0, .ref t0)]) hX hB dX1_countedLanes_42 hl (k := 1) rfl (by decide) (by decide) rfl (fun ls hl => ?_)
      refine lv_goto (tgt := 22) hX hB dX1_countedLanes_45 (by decide) ?_
      refine lv_iload hX hB dX1_countedLanes_22 (lv_at hl 0 rfl) ?_
      refine lv_iload_n hX hB dX1_countedLanes_24 rfl (lv_at hl 2 rfl) ?_
      refine lv_icmp_ge (tgt := 48) hX hB dX1_countedLanes_25 (by decide) (fun c => absurd c (by decide)) (fun _ => ?_)
      refine lv_aload_n hX hB dX1_countedLanes_28 rfl (lv_at hl 3 rfl) ?_
      refine lv_iload hX hB dX1_countedLanes_29 (lv_at hl 0 rfl) ?_
      refine z_zald C hP 1 rfl (k := 1) (zlit 1) (by decide) (by decide) (v := fl 1) rfl dX1_countedLanes_31 ?_
      refine lv_istore (lv' := [(5, .int (fl 1)), (4, .int 1), (3, .int 4), (2, .ref t1), (1, .int 0), (0, .ref t0)]) hX hB dX1_countedLanes_32 hl (by decide) rfl (fun ls hl => ?_)
      refine lv_iload hX hB dX1_countedLanes_34 (lv_at hl 0 rfl) ?_
      refine lv_if_ne (tgt := 42) hX hB dX1_countedLanes_36 (by decide) (fun c_3 => ?_) (fun c_3 => ?_)
      · refine lv_iinc (v := 2) (lv' := [(4, .int 2), (5, .int (fl 1)), (3, .int 4), (2, .ref t1), (1, .int 0), (0, .ref t0)]) hX hB dX1_countedLanes_42 hl (k := 1) rfl (by decide) (by decide) rfl (fun ls hl => ?_)
        refine lv_goto (tgt := 22) hX hB dX1_countedLanes_45 (by decide) ?_
        refine lv_iload hX hB dX1_countedLanes_22 (lv_at hl 0 rfl) ?_
        refine lv_iload_n hX hB dX1_countedLanes_24 rfl (lv_at hl 2 rfl) ?_
        refine lv_icmp_ge (tgt := 48) hX hB dX1_countedLanes_25 (by decide) (fun c => absurd c (by decide)) (fun _ => ?_)
        refine lv_aload_n hX hB dX1_countedLanes_28 rfl (lv_at hl 3 rfl) ?_
        refine lv_iload hX hB dX1_countedLanes_29 (lv_at hl 0 rfl) ?_
        refine z_zald C hP 1 rfl (k := 2) (zlit 2) (by decide) (by decide) (v := fl 2) rfl dX1_countedLanes_31 ?_
        refine lv_istore (lv' := [(5, .int (fl 2)), (4, .int 2), (3, .int 4), (2, .ref t1), (1, .int 0), (0, .ref t0)]) hX hB dX1_countedLanes_32 hl (by decide) rfl (fun ls hl => ?_)
        refine lv_iload hX hB dX1_countedLanes_34 (lv_at hl 0 rfl) ?_
        refine lv_if_ne (tgt := 42) hX hB dX1_countedLanes_36 (by decide) (fun c_4 => ?_) (fun c_4 => ?_)
        · refine lv_iinc (v := 3) (lv' := [(4, .int 3), (5, .int (fl 2)), (3, .int 4), (2, .ref t1), (1, .int 0), (0, .ref t0)]) hX hB dX1_countedLanes_42 hl (k := 1) rfl (by decide) (by decide) rfl (fun ls hl => ?_)
          refine lv_goto (tgt := 22) hX hB dX1_countedLanes_45 (by decide) ?_
          refine lv_iload hX hB dX1_countedLanes_22 (lv_at hl 0 rfl) ?_
          refine lv_iload_n hX hB dX1_countedLanes_24 rfl (lv_at hl 2 rfl) ?_
          refine lv_icmp_ge (tgt := 48) hX hB dX1_countedLanes_25 (by decide) (fun c => absurd c (by decide)) (fun _ => ?_)
          refine lv_aload_n hX hB dX1_countedLanes_28 rfl (lv_at hl 3 rfl) ?_
          refine lv_iload hX hB dX1_countedLanes_29 (lv_at hl 0 rfl) ?_
          refine z_zald C hP 1 rfl (k := 3) (zlit 3) (by decide) (by decide) (v := fl 3) rfl dX1_countedLanes_31 ?_
          refine lv_istore (lv' := [(5, .int (fl 3)), (4, .int 3), (3, .int 4), (2, .ref t1), (1, .int 0), (0, .ref t0)]) hX hB dX1_countedLanes_32 hl (by decide) rfl (fun ls hl => ?_)
          refine lv_iload hX hB dX1_countedLanes_34 (lv_at hl 0 rfl) ?_
          refine lv_if_ne (tgt := 42) hX hB dX1_countedLanes_36 (by decide) (fun c_5 => ?_) (fun c_5 => ?_)
          · refine lv_iinc (v := 4) (lv' := [(4, .int 4), (5, .int (fl 3)), (3, .int 4), (2, .ref t1), (1, .int 0), (0, .ref t0)]) hX hB dX1_countedLanes_42 hl (k := 1) rfl (by decide) (by decide) rfl (fun ls hl => ?_)
            refine lv_goto (tgt := 22) hX hB dX1_countedLanes_45 (by decide) ?_
            refine lv_iload hX hB dX1_countedLanes_22 (lv_at hl 0 rfl) ?_
            refine lv_iload_n hX hB dX1_countedLanes_24 rfl (lv_at hl 2 rfl) ?_
            refine lv_icmp_ge (tgt := 48) hX hB dX1_countedLanes_25 (by decide) (fun _ => ?_) (fun c => absurd (by decide) c)
            refine lv_iload_n hX hB dX1_countedLanes_48 rfl (lv_at hl 4 rfl) ?_
            refine lv_bipush (v := 100) hX hB dX1_countedLanes_49 (by decide) ?_
            refine z_imul (v := 0) C dX1_countedLanes_51 (by decide) ?_
            refine lv_aload_n hX hB dX1_countedLanes_52 rfl (lv_at hl 5 rfl) ?_
            refine fg_X1_9 C hP 0 rfl rfl dX1_countedLanes_53 ?_
            refine z_imul (v := 0 * u1) C dX1_countedLanes_56 rfl ?_
            exact z_iret' (0 * u1) (w' := q_X1_countedLanes cy t0 t1 t2 t3 u1 u2 u3 u4 u5 u6 u7 u8 fl fb fd) (r0 := (fun (o : Int32) => o)) (by simp only [n_X1_countedLanes, if_pos c_1, if_neg c_2, if_neg c_3, if_neg c_4, if_neg c_5]) C hRT hP hD hS (Nat.le_of_ble_eq_true rfl) (Nat.le_of_ble_eq_true rfl) rfl rfl dX1_countedLanes_57
          · refine lv_iinc (v := 1) (lv' := [(1, .int 1), (5, .int (fl 3)), (4, .int 3), (3, .int 4), (2, .ref t1), (0, .ref t0)]) hX hB dX1_countedLanes_39 hl (k := 4) rfl (by decide) (by decide) rfl (fun ls hl => ?_)
            refine lv_iinc (v := 4) (lv' := [(4, .int 4), (1, .int 1), (5, .int (fl 3)), (3, .int 4), (2, .ref t1), (0, .ref t0)]) hX hB dX1_countedLanes_42 hl (k := 2) rfl (by decide) (by decide) rfl (fun ls hl => ?_)
            refine lv_goto (tgt := 22) hX hB dX1_countedLanes_45 (by decide) ?_
            refine lv_iload hX hB dX1_countedLanes_22 (lv_at hl 0 rfl) ?_
            refine lv_iload_n hX hB dX1_countedLanes_24 rfl (lv_at hl 3 rfl) ?_
            refine lv_icmp_ge (tgt := 48) hX hB dX1_countedLanes_25 (by decide) (fun _ => ?_) (fun c => absurd (by decide) c)
            refine lv_iload_n hX hB dX1_countedLanes_48 rfl (lv_at hl 1 rfl) ?_
            refine lv_bipush (v := 100) hX hB dX1_countedLanes_49 (by decide) ?_
            refine z_imul (v := 100) C dX1_countedLanes_51 (by decide) ?_
            refine lv_aload_n hX hB dX1_countedLanes_52 rfl (lv_at hl 5 rfl) ?_
            refine fg_X1_9 C hP 0 rfl rfl dX1_countedLanes_53 ?_
            refine z_imul (v := 100 * u1) C dX1_countedLanes_56 rfl ?_
            exact z_iret' (100 * u1) (w' := q_X1_countedLanes cy t0 t1 t2 t3 u1 u2 u3 u4 u5 u6 u7 u8 fl fb fd) (r0 := (fun (o : Int32) => o)) (by simp only [n_X1_countedLanes, if_pos c_1, if_neg c_2, if_neg c_3, if_neg c_4, if_pos c_5]) C hRT hP hD hS (Nat.le_of_ble_eq_true rfl) (Nat.le_of_ble_eq_true rfl) rfl rfl dX1_countedLanes_57
        · refine lv_iinc (v := 1) (lv' := [(1, .int 1), (5, .int (fl 2)), (4, .int 2), (3, .int 4), (2, .ref t1), (0, .ref t0)]) hX hB dX1_countedLanes_39 hl (k := 4) rfl (by decide) (by decide) rfl (fun ls hl => ?_)
          refine lv_iinc (v := 3) (lv' := [(4, .int 3), (1, .int 1), (5, .int (fl 2)), (3, .int 4), (2, .ref t1), (0, .ref t0)]) hX hB dX1_countedLanes_42 hl (k := 2) rfl (by decide) (by decide) rfl (fun ls hl => ?_)
          refine lv_goto (tgt := 22) hX hB dX1_countedLanes_45 (by decide) ?_
          refine lv_iload hX hB dX1_countedLanes_22 (lv_at hl 0 rfl) ?_
          refine lv_iload_n hX hB dX1_countedLanes_24 rfl (lv_at hl 3 rfl) ?_
          refine lv_icmp_ge (tgt := 48) hX hB dX1_countedLanes_25 (by decide) (fun c => absurd c (by decide)) (fun _ => ?_)
          refine lv_aload_n hX hB dX1_countedLanes_28 rfl (lv_at hl 4 rfl) ?_
          refine lv_iload hX hB dX1_countedLanes_29 (lv_at hl 0 rfl) ?_
          refine z_zald C hP 1 rfl (k := 3) (zlit 3) (by decide) (by decide) (v := fl 3) rfl dX1_countedLanes_31 ?_
          refine lv_istore (lv' := [(5, .int (fl 3)), (4, .int 3), (1, .int 1), (3, .int 4), (2, .ref t1), (0, .ref t0)]) hX hB dX1_countedLanes_32 hl (by decide) rfl (fun ls hl => ?_)
          refine lv_iload hX hB dX1_countedLanes_34 (lv_at hl 0 rfl) ?_
          refine lv_if_ne (tgt := 42) hX hB dX1_countedLanes_36 (by decide) (fun c_6 => ?_) (fun c_6 => ?_)
          · refine lv_iinc (v := 4) (lv' := [(4, .int 4), (5, .int (fl 3)), (1, .int 1), (3, .int 4), (2, .ref t1), (0, .ref t0)]) hX hB dX1_countedLanes_42 hl (k := 1) rfl (by decide) (by decide) rfl (fun ls hl => ?_)
            refine lv_goto (tgt := 22) hX hB dX1_countedLanes_45 (by decide) ?_
            refine lv_iload hX hB dX1_countedLanes_22 (lv_at hl 0 rfl) ?_
            refine lv_iload_n hX hB dX1_countedLanes_24 rfl (lv_at hl 3 rfl) ?_
            refine lv_icmp_ge (tgt := 48) hX hB dX1_countedLanes_25 (by decide) (fun _ => ?_) (fun c => absurd (by decide) c)
            refine lv_iload_n hX hB dX1_countedLanes_48 rfl (lv_at hl 2 rfl) ?_
            refine lv_bipush (v := 100) hX hB dX1_countedLanes_49 (by decide) ?_
            refine z_imul (v := 100) C dX1_countedLanes_51 (by decide) ?_
            refine lv_aload_n hX hB dX1_countedLanes_52 rfl (lv_at hl 5 rfl) ?_
            refine fg_X1_9 C hP 0 rfl rfl dX1_countedLanes_53 ?_
            refine z_imul (v := 100 * u1) C dX1_countedLanes_56 rfl ?_
            exact z_iret' (100 * u1) (w' := q_X1_countedLanes cy t0 t1 t2 t3 u1 u2 u3 u4 u5 u6 u7 u8 fl fb fd) (r0 := (fun (o : Int32) => o)) (by simp only [n_X1_countedLanes, if_pos c_1, if_neg c_2, if_neg c_3, if_pos c_4, if_neg c_6]) C hRT hP hD hS (Nat.le_of_ble_eq_true rfl) (Nat.le_of_ble_eq_true rfl) rfl rfl dX1_countedLanes_57
          · refine lv_iinc (v := 2) (lv' := [(1, .int 2), (5, .int (fl 3)), (4, .int 3), (3, .int 4), (2, .ref t1), (0, .ref t0)]) hX hB dX1_countedLanes_39 hl (k := 2) rfl (by decide) (by decide) rfl (fun ls hl => ?_)
            refine lv_iinc (v := 4) (lv' := [(4, .int 4), (1, .int 2), (5, .int (fl 3)), (3, .int 4), (2, .ref t1), (0, .ref t0)]) hX hB dX1_countedLanes_42 hl (k := 2) rfl (by decide) (by decide) rfl (fun ls hl => ?_)
            refine lv_goto (tgt := 22) hX hB dX1_countedLanes_45 (by decide) ?_
            refine lv_iload hX hB dX1_countedLanes_22 (lv_at hl 0 rfl) ?_
            refine lv_iload_n hX hB dX1_countedLanes_24 rfl (lv_at hl 3 rfl) ?_
            refine lv_icmp_ge (tgt := 48) hX hB dX1_countedLanes_25 (by decide) (fun _ => ?_) (fun c => absurd (by decide) c)
            refine lv_iload_n hX hB dX1_countedLanes_48 rfl (lv_at hl 1 rfl) ?_
            refine lv_bipush (v := 100) hX hB dX1_countedLanes_49 (by decide) ?_
            refine z_imul (v := 200) C dX1_countedLanes_51 (by decide) ?_
            refine lv_aload_n hX hB dX1_countedLanes_52 rfl (lv_at hl 5 rfl) ?_
            refine fg_X1_9 C hP 0 rfl rfl dX1_countedLanes_53 ?_
            refine z_imul (v := 200 * u1) C dX1_countedLanes_56 rfl ?_
            exact z_iret' (200 * u1) (w' := q_X1_countedLanes cy t0 t1 t2 t3 u1 u2 u3 u4 u5 u6 u7 u8 fl fb fd) (r0 := (fun (o : Int32) => o)) (by simp only [n_X1_countedLanes, if_pos c_1, if_neg c_2, if_neg c_3, if_pos c_4, if_pos c_6]) C hRT hP hD hS (Nat.le_of_ble_eq_true rfl) (Nat.le_of_ble_eq_true rfl) rfl rfl dX1_countedLanes_57
      · refine lv_iinc (v := 1) (lv' := [(1, .int 1), (5, .int (fl 1)), (4, .int 1), (3, .int 4), (2, .ref t1), (0, .ref t0)]) hX hB dX1_countedLanes_39 hl (k := 4) rfl (by decide) (by decide) rfl (fun ls hl => ?_)
        refine lv_iinc (v := 2) (lv' := [(4, .int 2), (1, .int 1), (5, .int (fl 1)), (3, .int 4), (2, .ref t1), (0, .ref t0)]) hX hB dX1_countedLanes_42 hl (k := 2) rfl (by decide) (by decide) rfl (fun ls hl => ?_)
        refine lv_goto (tgt := 22) hX hB dX1_countedLanes_45 (by decide) ?_
        refine lv_iload hX hB dX1_countedLanes_22 (lv_at hl 0 rfl) ?_
        refine lv_iload_n hX hB dX1_countedLanes_24 rfl (lv_at hl 3 rfl) ?_
        refine lv_icmp_ge (tgt := 48) hX hB dX1_countedLanes_25 (by decide) (fun c => absurd c (by decide)) (fun _ => ?_)
        refine lv_aload_n hX hB dX1_countedLanes_28 rfl (lv_at hl 4 rfl) ?_
        refine lv_iload hX hB dX1_countedLanes_29 (lv_at hl 0 rfl) ?_
        refine z_zald C hP 1 rfl (k := 2) (zlit 2) (by decide) (by decide) (v := fl 2) rfl dX1_countedLanes_31 ?_
        refine lv_istore (lv' := [(5, .int (fl 2)), (4, .int 2), (1, .int 1), (3, .int 4), (2, .ref t1), (0, .ref t0)]) hX hB dX1_countedLanes_32 hl (by decide) rfl (fun ls hl => ?_)
        refine lv_iload hX hB dX1_countedLanes_34 (lv_at hl 0 rfl) ?_
        refine lv_if_ne (tgt := 42) hX hB dX1_countedLanes_36 (by decide) (fun c_7 => ?_) (fun c_7 => ?_)
        · refine lv_iinc (v := 3) (lv' := [(4, .int 3), (5, .int (fl 2)), (1, .int 1), (3, .int 4), (2, .ref t1), (0, .ref t0)]) hX hB dX1_countedLanes_42 hl (k := 1) rfl (by decide) (by decide) rfl (fun ls hl => ?_)
          refine lv_goto (tgt := 22) hX hB dX1_countedLanes_45 (by decide) ?_
          refine lv_iload hX hB dX1_countedLanes_22 (lv_at hl 0 rfl) ?_
          refine lv_iload_n hX hB dX1_countedLanes_24 rfl (lv_at hl 3 rfl) ?_
          refine lv_icmp_ge (tgt := 48) hX hB dX1_countedLanes_25 (by decide) (fun c => absurd c (by decide)) (fun _ => ?_)
          refine lv_aload_n hX hB dX1_countedLanes_28 rfl (lv_at hl 4 rfl) ?_
          refine lv_iload hX hB dX1_countedLanes_29 (lv_at hl 0 rfl) ?_
          refine z_zald C hP 1 rfl (k := 3) (zlit 3) (by decide) (by decide) (v := fl 3) rfl dX1_countedLanes_31 ?_
          refine lv_istore (lv' := [(5, .int (fl 3)), (4, .int 3), (1, .int 1), (3, .int 4), (2, .ref t1), (0, .ref t0)]) hX hB dX1_countedLanes_32 hl (by decide) rfl (fun ls hl => ?_)
          refine lv_iload hX hB dX1_countedLanes_34 (lv_at hl 0 rfl) ?_
          refine lv_if_ne (tgt := 42) hX hB dX1_countedLanes_36 (by decide) (fun c_8 => ?_) (fun c_8 => ?_)
          · refine lv_iinc (v := 4) (lv' := [(4, .int 4), (5, .int (fl 3)), (1, .int 1), (3, .int 4), (2, .ref t1), (0, .ref t0)]) hX hB dX1_countedLanes_42 hl (k := 1) rfl (by decide) (by decide) rfl (fun ls hl => ?_)
            refine lv_goto (tgt := 22) hX hB dX1_countedLanes_45 (by decide) ?_
            refine lv_iload hX hB dX1_countedLanes_22 (lv_at hl 0 rfl) ?_
            refine lv_iload_n hX hB dX1_countedLanes_24 rfl (lv_at hl 3 rfl) ?_
            refine lv_icmp_ge (tgt := 48) hX hB dX1_countedLanes_25 (by decide) (fun _ => ?_) (fun c => absurd (by decide) c)
            refine lv_iload_n hX hB dX1_countedLanes_48 rfl (lv_at hl 2 rfl) ?_
            refine lv_bipush (v := 100) hX hB dX1_countedLanes_49 (by decide) ?_
            refine z_imul (v := 100) C dX1_countedLanes_51 (by decide) ?_
            refine lv_aload_n hX hB dX1_countedLanes_52 rfl (lv_at hl 5 rfl) ?_
            refine fg_X1_9 C hP 0 rfl rfl dX1_countedLanes_53 ?_
            refine z_imul (v := 100 * u1) C dX1_countedLanes_56 rfl ?_
            exact z_iret' (100 * u1) (w' := q_X1_countedLanes cy t0 t1 t2 t3 u1 u2 u3 u4 u5 u6 u7 u8 fl fb fd) (r0 := (fun (o : Int32) => o)) (by simp only [n_X1_countedLanes, if_pos c_1, if_neg c_2, if_pos c_3, if_neg c_7, if_neg c_8]) C hRT hP hD hS (Nat.le_of_ble_eq_true rfl) (Nat.le_of_ble_eq_true rfl) rfl rfl dX1_countedLanes_57
          · refine lv_iinc (v := 2) (lv' := [(1, .int 2), (5, .int (fl 3)), (4, .int 3), (3, .int 4), (2, .ref t1), (0, .ref t0)]) hX hB dX1_countedLanes_39 hl (k := 2) rfl (by decide) (by decide) rfl (fun ls hl => ?_)
            refine lv_iinc (v := 4) (lv' := [(4, .int 4), (1, .int 2), (5, .int (fl 3)), (3, .int 4), (2, .ref t1), (0, .ref t0)]) hX hB dX1_countedLanes_42 hl (k := 2) rfl (by decide) (by decide) rfl (fun ls hl => ?_)
            refine lv_goto (tgt := 22) hX hB dX1_countedLanes_45 (by decide) ?_
            refine lv_iload hX hB dX1_countedLanes_22 (lv_at hl 0 rfl) ?_
            refine lv_iload_n hX hB dX1_countedLanes_24 rfl (lv_at hl 3 rfl) ?_
            refine lv_icmp_ge (tgt := 48) hX hB dX1_countedLanes_25 (by decide) (fun _ => ?_) (fun c => absurd (by decide) c)
            refine lv_iload_n hX hB dX1_countedLanes_48 rfl (lv_at hl 1 rfl) ?_
            refine lv_bipush (v := 100) hX hB dX1_countedLanes_49 (by decide) ?_
            refine z_imul (v := 200) C dX1_countedLanes_51 (by decide) ?_
            refine lv_aload_n hX hB dX1_countedLanes_52 rfl (lv_at hl 5 rfl) ?_
            refine fg_X1_9 C hP 0 rfl rfl dX1_countedLanes_53 ?_
            refine z_imul (v := 200 * u1) C dX1_countedLanes_56 rfl ?_
            exact z_iret' (200 * u1) (w' := q_X1_countedLanes cy t0 t1 t2 t3 u1 u2 u3 u4 u5 u6 u7 u8 fl fb fd) (r0 := (fun (o : Int32) => o)) (by simp only [n_X1_countedLanes, if_pos c_1, if_neg c_2, if_pos c_3, if_neg c_7, if_pos c_8]) C hRT hP hD hS (Nat.le_of_ble_eq_true rfl) (Nat.le_of_ble_eq_true rfl) rfl rfl dX1_countedLanes_57
        · refine lv_iinc (v := 2) (lv' := [(1, .int 2), (5, .int (fl 2)), (4, .int 2), (3, .int 4), (2, .ref t1), (0, .ref t0)]) hX hB dX1_countedLanes_39 hl (k := 2) rfl (by decide) (by decide) rfl (fun ls hl => ?_)
          refine lv_iinc (v := 3) (lv' := [(4, .int 3), (1, .int 2), (5, .int (fl 2)), (3, .int 4), (2, .ref t1), (0, .ref t0)]) hX hB dX1_countedLanes_42 hl (k := 2) rfl (by decide) (by decide) rfl (fun ls hl => ?_)
          refine lv_goto (tgt := 22) hX hB dX1_countedLanes_45 (by decide) ?_
          refine lv_iload hX hB dX1_countedLanes_22 (lv_at hl 0 rfl) ?_
          refine lv_iload_n hX hB dX1_countedLanes_24 rfl (lv_at hl 3 rfl) ?_
          refine lv_icmp_ge (tgt := 48) hX hB dX1_countedLanes_25 (by decide) (fun c => absurd c (by decide)) (fun _ => ?_)
          refine lv_aload_n hX hB dX1_countedLanes_28 rfl (lv_at hl 4 rfl) ?_
          refine lv_iload hX hB dX1_countedLanes_29 (lv_at hl 0 rfl) ?_
          refine z_zald C hP 1 rfl (k := 3) (zlit 3) (by decide) (by decide) (v := fl 3) rfl dX1_countedLanes_31 ?_
          refine lv_istore (lv' := [(5, .int (fl 3)), (4, .int 3), (1, .int 2), (3, .int 4), (2, .ref t1), (0, .ref t0)]) hX hB dX1_countedLanes_32 hl (by decide) rfl (fun ls hl => ?_)
          refine lv_iload hX hB dX1_countedLanes_34 (lv_at hl 0 rfl) ?_
          refine lv_if_ne (tgt := 42) hX hB dX1_countedLanes_36 (by decide) (fun c_9 => ?_) (fun c_9 => ?_)
          · refine lv_iinc (v := 4) (lv' := [(4, .int 4), (5, .int (fl 3)), (1, .int 2), (3, .int 4), (2, .ref t1), (0, .ref t0)]) hX hB dX1_countedLanes_42 hl (k := 1) rfl (by decide) (by decide) rfl (fun ls hl => ?_)
            refine lv_goto (tgt := 22) hX hB dX1_countedLanes_45 (by decide) ?_
            refine lv_iload hX hB dX1_countedLanes_22 (lv_at hl 0 rfl) ?_
            refine lv_iload_n hX hB dX1_countedLanes_24 rfl (lv_at hl 3 rfl) ?_
            refine lv_icmp_ge (tgt := 48) hX hB dX1_countedLanes_25 (by decide) (fun _ => ?_) (fun c => absurd (by decide) c)
            refine lv_iload_n hX hB dX1_countedLanes_48 rfl (lv_at hl 2 rfl) ?_
            refine lv_bipush (v := 100) hX hB dX1_countedLanes_49 (by decide) ?_
            refine z_imul (v := 200) C dX1_countedLanes_51 (by decide) ?_
            refine lv_aload_n hX hB dX1_countedLanes_52 rfl (lv_at hl 5 rfl) ?_
            refine fg_X1_9 C hP 0 rfl rfl dX1_countedLanes_53 ?_
            refine z_imul (v := 200 * u1) C dX1_countedLanes_56 rfl ?_
            exact z_iret' (200 * u1) (w' := q_X1_countedLanes cy t0 t1 t2 t3 u1 u2 u3 u4 u5 u6 u7 u8 fl fb fd) (r0 := (fun (o : Int32) => o)) (by simp only [n_X1_countedLanes, if_pos c_1, if_neg c_2, if_pos c_3, if_pos c_7, if_neg c_9]) C hRT hP hD hS (Nat.le_of_ble_eq_true rfl) (Nat.le_of_ble_eq_true rfl) rfl rfl dX1_countedLanes_57
          · refine lv_iinc (v := 3) (lv' := [(1, .int 3), (5, .int (fl 3)), (4, .int 3), (3, .int 4), (2, .ref t1), (0, .ref t0)]) hX hB dX1_countedLanes_39 hl (k := 2) rfl (by decide) (by decide) rfl (fun ls hl => ?_)
            refine lv_iinc (v := 4) (lv' := [(4, .int 4), (1, .int 3), (5, .int (fl 3)), (3, .int 4), (2, .ref t1), (0, .ref t0)]) hX hB dX1_countedLanes_42 hl (k := 2) rfl (by decide) (by decide) rfl (fun ls hl => ?_)
            refine lv_goto (tgt := 22) hX hB dX1_countedLanes_45 (by decide) ?_
            refine lv_iload hX hB dX1_countedLanes_22 (lv_at hl 0 rfl) ?_
            refine lv_iload_n hX hB dX1_countedLanes_24 rfl (lv_at hl 3 rfl) ?_
            refine lv_icmp_ge (tgt := 48) hX hB dX1_countedLanes_25 (by decide) (fun _ => ?_) (fun c => absurd (by decide) c)
            refine lv_iload_n hX hB dX1_countedLanes_48 rfl (lv_at hl 1 rfl) ?_
            refine lv_bipush (v := 100) hX hB dX1_countedLanes_49 (by decide) ?_
            refine z_imul (v := 300) C dX1_countedLanes_51 (by decide) ?_
            refine lv_aload_n hX hB dX1_countedLanes_52 rfl (lv_at hl 5 rfl) ?_
            refine fg_X1_9 C hP 0 rfl rfl dX1_countedLanes_53 ?_
            refine z_imul (v := 300 * u1) C dX1_countedLanes_56 rfl ?_
            exact z_iret' (300 * u1) (w' := q_X1_countedLanes cy t0 t1 t2 t3 u1 u2 u3 u4 u5 u6 u7 u8 fl fb fd) (r0 := (fun (o : Int32) => o)) (by simp only [n_X1_countedLanes, if_pos c_1, if_neg c_2, if_pos c_3, if_pos c_7, if_pos c_9]) C hRT hP hD hS (Nat.le_of_ble_eq_true rfl) (Nat.le_of_ble_eq_true rfl) rfl rfl dX1_countedLanes_57
    · refine lv_iinc (v := 1) (lv' := [(1, .int 1), (5, .int (fl 0)), (4, .int 0), (3, .int 4), (2, .ref t1), (0, .ref t0)]) hX hB dX1_countedLanes_39 hl (k := 4) rfl (by decide) (by decide) rfl (fun ls hl => ?_)
      refine lv_iinc (v := 1) (lv' := [(4, .int 1), (1, .int 1), (5, .int (fl 0)), (3, .int 4), (2, .ref t1), (0, .ref t0)]) hX hB dX1_countedLanes_42 hl (k := 2) rfl (by decide) (by decide) rfl (fun ls hl => ?_)
      refine lv_goto (tgt := 22) hX hB dX1_countedLanes_45 (by decide) ?_
      refine lv_iload hX hB dX1_countedLanes_22 (lv_at hl 0 rfl) ?_
      refine lv_iload_n hX hB dX1_countedLanes_24 rfl (lv_at hl 3 rfl) ?_
      refine lv_icmp_ge (tgt := 48) hX hB dX1_countedLanes_25 (by decide) (fun c => absurd c (by decide)) (fun _ => ?_)
      refine lv_aload_n hX hB dX1_countedLanes_28 rfl (lv_at hl 4 rfl) ?_
      refine lv_iload hX hB dX1_countedLanes_29 (lv_at hl 0 rfl) ?_
      refine z_zald C hP 1 rfl (k := 1) (zlit 1) (by decide) (by decide) (v := fl 1) rfl dX1_countedLanes_31 ?_
      refine lv_istore (lv' := [(5, .int (fl 1)), (4, .int 1), (1, .int 1), (3, .int 4), (2, .ref t1), (0, .ref t0)]) hX hB dX1_countedLanes_32 hl (by decide) rfl (fun ls hl => ?_)
      refine lv_iload hX hB dX1_countedLanes_34 (lv_at hl 0 rfl) ?_
      refine lv_if_ne (tgt := 42) hX hB dX1_countedLanes_36 (by decide) (fun c_10 => ?_) (fun c_10 => ?_)
      · refine lv_iinc (v := 2) (lv' := [(4, .int 2), (5, .int (fl 1)), (1, .int 1), (3, .int 4), (2, .ref t1), (0, .ref t0)]) hX hB dX1_countedLanes_42 hl (k := 1) rfl (by decide) (by decide) rfl (fun ls hl => ?_)
        refine lv_goto (tgt := 22) hX hB dX1_countedLanes_45 (by decide) ?_
        refine lv_iload hX hB dX1_countedLanes_22 (lv_at hl 0 rfl) ?_
        refine lv_iload_n hX hB dX1_countedLanes_24 rfl (lv_at hl 3 rfl) ?_
        refine lv_icmp_ge (tgt := 48) hX hB dX1_countedLanes_25 (by decide) (fun c => absurd c (by decide)) (fun _ => ?_)
        refine lv_aload_n hX hB dX1_countedLanes_28 rfl (lv_at hl 4 rfl) ?_
        refine lv_iload hX hB dX1_countedLanes_29 (lv_at hl 0 rfl) ?_
        refine z_zald C hP 1 rfl (k := 2) (zlit 2) (by decide) (by decide) (v := fl 2) rfl dX1_countedLanes_31 ?_
        refine lv_istore (lv' := [(5, .int (fl 2)), (4, .int 2), (1, .int 1), (3, .int 4), (2, .ref t1), (0, .ref t0)]) hX hB dX1_countedLanes_32 hl (by decide) rfl (fun ls hl => ?_)
        refine lv_iload hX hB dX1_countedLanes_34 (lv_at hl 0 rfl) ?_
        refine lv_if_ne (tgt := 42) hX hB dX1_countedLanes_36 (by decide) (fun c_11 => ?_) (fun c_11 => ?_)
        · refine lv_iinc (v := 3) (lv' := [(4, .int 3), (5, .int (fl 2)), (1, .int 1), (3, .int 4), (2, .ref t1), (0, .ref t0)]) hX hB dX1_countedLanes_42 hl (k := 1) rfl (by decide) (by decide) rfl (fun ls hl => ?_)
          refine lv_goto (tgt := 22) hX hB dX1_countedLanes_45 (by decide) ?_
          refine lv_iload hX hB dX1_countedLanes_22 (lv_at hl 0 rfl) ?_
          refine lv_iload_n hX hB dX1_countedLanes_24 rfl (lv_at hl 3 rfl) ?_
          refine lv_icmp_ge (tgt := 48) hX hB dX1_countedLanes_25 (by decide) (fun c => absurd c (by decide)) (fun _ => ?_)
          refine lv_aload_n hX hB dX1_countedLanes_28 rfl (lv_at hl 4 rfl) ?_
          refine lv_iload hX hB dX1_countedLanes_29 (lv_at hl 0 rfl) ?_
          refine z_zald C hP 1 rfl (k := 3) (zlit 3) (by decide) (by decide) (v := fl 3) rfl dX1_countedLanes_31 ?_
          refine lv_istore (lv' := [(5, .int (fl 3)), (4, .int 3), (1, .int 1), (3, .int 4), (2, .ref t1), (0, .ref t0)]) hX hB dX1_countedLanes_32 hl (by decide) rfl (fun ls hl => ?_)
          refine lv_iload hX hB dX1_countedLanes_34 (lv_at hl 0 rfl) ?_
          refine lv_if_ne (tgt := 42) hX hB dX1_countedLanes_36 (by decide) (fun c_12 => ?_) (fun c_12 => ?_)
          · refine lv_iinc (v := 4) (lv' := [(4, .int 4), (5, .int (fl 3)), (1, .int 1), (3, .int 4), (2, .ref t1), (0, .ref t0)]) hX hB dX1_countedLanes_42 hl (k := 1) rfl (by decide) (by decide) rfl (fun ls hl => ?_)
            refine lv_goto (tgt := 22) hX hB dX1_countedLanes_45 (by decide) ?_
            refine lv_iload hX hB dX1_countedLanes_22 (lv_at hl 0 rfl) ?_
            refine lv_iload_n hX hB dX1_countedLanes_24 rfl (lv_at hl 3 rfl) ?_
            refine lv_icmp_ge (tgt := 48) hX hB dX1_countedLanes_25 (by decide) (fun _ => ?_) (fun c => absurd (by decide) c)
            refine lv_iload_n hX hB dX1_countedLanes_48 rfl (lv_at hl 2 rfl) ?_
            refine lv_bipush (v := 100) hX hB dX1_countedLanes_49 (by decide) ?_
            refine z_imul (v := 100) C dX1_countedLanes_51 (by decide) ?_
            refine lv_aload_n hX hB dX1_countedLanes_52 rfl (lv_at hl 5 rfl) ?_
            refine fg_X1_9 C hP 0 rfl rfl dX1_countedLanes_53 ?_
            refine z_imul (v := 100 * u1) C dX1_countedLanes_56 rfl ?_
            exact z_iret' (100 * u1) (w' := q_X1_countedLanes cy t0 t1 t2 t3 u1 u2 u3 u4 u5 u6 u7 u8 fl fb fd) (r0 := (fun (o : Int32) => o)) (by simp only [n_X1_countedLanes, if_pos c_1, if_pos c_2, if_neg c_10, if_neg c_11, if_neg c_12]) C hRT hP hD hS (Nat.le_of_ble_eq_true rfl) (Nat.le_of_ble_eq_true rfl) rfl rfl dX1_countedLanes_57
          · refine lv_iinc (v := 2) (lv' := [(1, .int 2), (5, .int (fl 3)), (4, .int 3), (3, .int 4), (2, .ref t1), (0, .ref t0)]) hX hB dX1_countedLanes_39 hl (k := 2) rfl (by decide) (by decide) rfl (fun ls hl => ?_)
            refine lv_iinc (v := 4) (lv' := [(4, .int 4), (1, .int 2), (5, .int (fl 3)), (3, .int 4), (2, .ref t1), (0, .ref t0)]) hX hB dX1_countedLanes_42 hl (k := 2) rfl (by decide) (by decide) rfl (fun ls hl => ?_)
            refine lv_goto (tgt := 22) hX hB dX1_countedLanes_45 (by decide) ?_
            refine lv_iload hX hB dX1_countedLanes_22 (lv_at hl 0 rfl) ?_
            refine lv_iload_n hX hB dX1_countedLanes_24 rfl (lv_at hl 3 rfl) ?_
            refine lv_icmp_ge (tgt := 48) hX hB dX1_countedLanes_25 (by decide) (fun _ => ?_) (fun c => absurd (by decide) c)
            refine lv_iload_n hX hB dX1_countedLanes_48 rfl (lv_at hl 1 rfl) ?_
            refine lv_bipush (v := 100) hX hB dX1_countedLanes_49 (by decide) ?_
            refine z_imul (v := 200) C dX1_countedLanes_51 (by decide) ?_
            refine lv_aload_n hX hB dX1_countedLanes_52 rfl (lv_at hl 5 rfl) ?_
            refine fg_X1_9 C hP 0 rfl rfl dX1_countedLanes_53 ?_
            refine z_imul (v := 200 * u1) C dX1_countedLanes_56 rfl ?_
            exact z_iret' (200 * u1) (w' := q_X1_countedLanes cy t0 t1 t2 t3 u1 u2 u3 u4 u5 u6 u7 u8 fl fb fd) (r0 := (fun (o : Int32) => o)) (by simp only [n_X1_countedLanes, if_pos c_1, if_pos c_2, if_neg c_10, if_neg c_11, if_pos c_12]) C hRT hP hD hS (Nat.le_of_ble_eq_true rfl) (Nat.le_of_ble_eq_true rfl) rfl rfl dX1_countedLanes_57
        · refine lv_iinc (v := 2) (lv' := [(1, .int 2), (5, .int (fl 2)), (4, .int 2), (3, .int 4), (2, .ref t1), (0, .ref t0)]) hX hB dX1_countedLanes_39 hl (k := 2) rfl (by decide) (by decide) rfl (fun ls hl => ?_)
          refine lv_iinc (v := 3) (lv' := [(4, .int 3), (1, .int 2), (5, .int (fl 2)), (3, .int 4), (2, .ref t1), (0, .ref t0)]) hX hB dX1_countedLanes_42 hl (k := 2) rfl (by decide) (by decide) rfl (fun ls hl => ?_)
          refine lv_goto (tgt := 22) hX hB dX1_countedLanes_45 (by decide) ?_
          refine lv_iload hX hB dX1_countedLanes_22 (lv_at hl 0 rfl) ?_
          refine lv_iload_n hX hB dX1_countedLanes_24 rfl (lv_at hl 3 rfl) ?_
          refine lv_icmp_ge (tgt := 48) hX hB dX1_countedLanes_25 (by decide) (fun c => absurd c (by decide)) (fun _ => ?_)
          refine lv_aload_n hX hB dX1_countedLanes_28 rfl (lv_at hl 4 rfl) ?_
          refine lv_iload hX hB dX1_countedLanes_29 (lv_at hl 0 rfl) ?_
          refine z_zald C hP 1 rfl (k := 3) (zlit 3) (by decide) (by decide) (v := fl 3) rfl dX1_countedLanes_31 ?_
          refine lv_istore (lv' := [(5, .int (fl 3)), (4, .int 3), (1, .int 2), (3, .int 4), (2, .ref t1), (0, .ref t0)]) hX hB dX1_countedLanes_32 hl (by decide) rfl (fun ls hl => ?_)
          refine lv_iload hX hB dX1_countedLanes_34 (lv_at hl 0 rfl) ?_
          refine lv_if_ne (tgt := 42) hX hB dX1_countedLanes_36 (by decide) (fun c_13 => ?_) (fun c_13 => ?_)
          · refine lv_iinc (v := 4) (lv' := [(4, .int 4), (5, .int (fl 3)), (1, .int 2), (3, .int 4), (2, .ref t1), (0, .ref t0)]) hX hB dX1_countedLanes_42 hl (k := 1) rfl (by decide) (by decide) rfl (fun ls hl => ?_)
            refine lv_goto (tgt := 22) hX hB dX1_countedLanes_45 (by decide) ?_
            refine lv_iload hX hB dX1_countedLanes_22 (lv_at hl 0 rfl) ?_
            refine lv_iload_n hX hB dX1_countedLanes_24 rfl (lv_at hl 3 rfl) ?_
            refine lv_icmp_ge (tgt := 48) hX hB dX1_countedLanes_25 (by decide) (fun _ => ?_) (fun c => absurd (by decide) c)
            refine lv_iload_n hX hB dX1_countedLanes_48 rfl (lv_at hl 2 rfl) ?_
            refine lv_bipush (v := 100) hX hB dX1_countedLanes_49 (by decide) ?_
            refine z_imul (v := 200) C dX1_countedLanes_51 (by decide) ?_
            refine lv_aload_n hX hB dX1_countedLanes_52 rfl (lv_at hl 5 rfl) ?_
            refine fg_X1_9 C hP 0 rfl rfl dX1_countedLanes_53 ?_
            refine z_imul (v := 200 * u1) C dX1_countedLanes_56 rfl ?_
            exact z_iret' (200 * u1) (w' := q_X1_countedLanes cy t0 t1 t2 t3 u1 u2 u3 u4 u5 u6 u7 u8 fl fb fd) (r0 := (fun (o : Int32) => o)) (by simp only [n_X1_countedLanes, if_pos c_1, if_pos c_2, if_neg c_10, if_pos c_11, if_neg c_13]) C hRT hP hD hS (Nat.le_of_ble_eq_true rfl) (Nat.le_of_ble_eq_true rfl) rfl rfl dX1_countedLanes_57
          · refine lv_iinc (v := 3) (lv' := [(1, .int 3), (5, .int (fl 3)), (4, .int 3), (3, .int 4), (2, .ref t1), (0, .ref t0)]) hX hB dX1_countedLanes_39 hl (k := 2) rfl (by decide) (by decide) rfl (fun ls hl => ?_)
            refine lv_iinc (v := 4) (lv' := [(4, .int 4), (1, .int 3), (5, .int (fl 3)), (3, .int 4), (2, .ref t1), (0, .ref t0)]) hX hB dX1_countedLanes_42 hl (k := 2) rfl (by decide) (by decide) rfl (fun ls hl => ?_)
            refine lv_goto (tgt := 22) hX hB dX1_countedLanes_45 (by decide) ?_
            refine lv_iload hX hB dX1_countedLanes_22 (lv_at hl 0 rfl) ?_
            refine lv_iload_n hX hB dX1_countedLanes_24 rfl (lv_at hl 3 rfl) ?_
            refine lv_icmp_ge (tgt := 48) hX hB dX1_countedLanes_25 (by decide) (fun _ => ?_) (fun c => absurd (by decide) c)
            refine lv_iload_n hX hB dX1_countedLanes_48 rfl (lv_at hl 1 rfl) ?_
            refine lv_bipush (v := 100) hX hB dX1_countedLanes_49 (by decide) ?_
            refine z_imul (v := 300) C dX1_countedLanes_51 (by decide) ?_
            refine lv_aload_n hX hB dX1_countedLanes_52 rfl (lv_at hl 5 rfl) ?_
            refine fg_X1_9 C hP 0 rfl rfl dX1_countedLanes_53 ?_
            refine z_imul (v := 300 * u1) C dX1_countedLanes_56 rfl ?_
            exact z_iret' (300 * u1) (w' := q_X1_countedLanes cy t0 t1 t2 t3 u1 u2 u3 u4 u5 u6 u7 u8 fl fb fd) (r0 := (fun (o : Int32) => o)) (by simp only [n_X1_countedLanes, if_pos c_1, if_pos c_2, if_neg c_10, if_pos c_11, if_pos c_13]) C hRT hP hD hS (Nat.le_of_ble_eq_true rfl) (Nat.le_of_ble_eq_true rfl) rfl rfl dX1_countedLanes_57
      · refine lv_iinc (v := 2) (lv' := [(1, .int 2), (5, .int (fl 1)), (4, .int 1), (3, .int 4), (2, .ref t1), (0, .ref t0)]) hX hB dX1_countedLanes_39 hl (k := 2) rfl (by decide) (by decide) rfl (fun ls hl => ?_)
        refine lv_iinc (v := 2) (lv' := [(4, .int 2), (1, .int 2), (5, .int (fl 1)), (3, .int 4), (2, .ref t1), (0, .ref t0)]) hX hB dX1_countedLanes_42 hl (k := 2) rfl (by decide) (by decide) rfl (fun ls hl => ?_)
        refine lv_goto (tgt := 22) hX hB dX1_countedLanes_45 (by decide) ?_
        refine lv_iload hX hB dX1_countedLanes_22 (lv_at hl 0 rfl) ?_
        refine lv_iload_n hX hB dX1_countedLanes_24 rfl (lv_at hl 3 rfl) ?_
        refine lv_icmp_ge (tgt := 48) hX hB dX1_countedLanes_25 (by decide) (fun c => absurd c (by decide)) (fun _ => ?_)
        refine lv_aload_n hX hB dX1_countedLanes_28 rfl (lv_at hl 4 rfl) ?_
        refine lv_iload hX hB dX1_countedLanes_29 (lv_at hl 0 rfl) ?_
        refine z_zald C hP 1 rfl (k := 2) (zlit 2) (by decide) (by decide) (v := fl 2) rfl dX1_countedLanes_31 ?_
        refine lv_istore (lv' := [(5, .int (fl 2)), (4, .int 2), (1, .int 2), (3, .int 4), (2, .ref t1), (0, .ref t0)]) hX hB dX1_countedLanes_32 hl (by decide) rfl (fun ls hl => ?_)
        refine lv_iload hX hB dX1_countedLanes_34 (lv_at hl 0 rfl) ?_
        refine lv_if_ne (tgt := 42) hX hB dX1_countedLanes_36 (by decide) (fun c_14 => ?_) (fun c_14 => ?_)
        · refine lv_iinc (v := 3) (lv' := [(4, .int 3), (5, .int (fl 2)), (1, .int 2), (3, .int 4), (2, .ref t1), (0, .ref t0)]) hX hB dX1_countedLanes_42 hl (k := 1) rfl (by decide) (by decide) rfl (fun ls hl => ?_)
          refine lv_goto (tgt := 22) hX hB dX1_countedLanes_45 (by decide) ?_
          refine lv_iload hX hB dX1_countedLanes_22 (lv_at hl 0 rfl) ?_
          refine lv_iload_n hX hB dX1_countedLanes_24 rfl (lv_at hl 3 rfl) ?_
          refine lv_icmp_ge (tgt := 48) hX hB dX1_countedLanes_25 (by decide) (fun c => absurd c (by decide)) (fun _ => ?_)
          refine lv_aload_n hX hB dX1_countedLanes_28 rfl (lv_at hl 4 rfl) ?_
          refine lv_iload hX hB dX1_countedLanes_29 (lv_at hl 0 rfl) ?_
          refine z_zald C hP 1 rfl (k := 3) (zlit 3) (by decide) (by decide) (v := fl 3) rfl dX1_countedLanes_31 ?_
          refine lv_istore (lv' := [(5, .int (fl 3)), (4, .int 3), (1, .int 2), (3, .int 4), (2, .ref t1), (0, .ref t0)]) hX hB dX1_countedLanes_32 hl (by decide) rfl (fun ls hl => ?_)
          refine lv_iload hX hB dX1_countedLanes_34 (lv_at hl 0 rfl) ?_
          refine lv_if_ne (tgt := 42) hX hB dX1_countedLanes_36 (by decide) (fun c_15 => ?_) (fun c_15 => ?_)
          · refine lv_iinc (v := 4) (lv' := [(4, .int 4), (5, .int (fl 3)), (1, .int 2), (3, .int 4), (2, .ref t1), (0, .ref t0)]) hX hB dX1_countedLanes_42 hl (k := 1) rfl (by decide) (by decide) rfl (fun ls hl => ?_)
            refine lv_goto (tgt := 22) hX hB dX1_countedLanes_45 (by decide) ?_
            refine lv_iload hX hB dX1_countedLanes_22 (lv_at hl 0 rfl) ?_
            refine lv_iload_n hX hB dX1_countedLanes_24 rfl (lv_at hl 3 rfl) ?_
            refine lv_icmp_ge (tgt := 48) hX hB dX1_countedLanes_25 (by decide) (fun _ => ?_) (fun c => absurd (by decide) c)
            refine lv_iload_n hX hB dX1_countedLanes_48 rfl (lv_at hl 2 rfl) ?_
            refine lv_bipush (v := 100) hX hB dX1_countedLanes_49 (by decide) ?_
            refine z_imul (v := 200) C dX1_countedLanes_51 (by decide) ?_
            refine lv_aload_n hX hB dX1_countedLanes_52 rfl (lv_at hl 5 rfl) ?_
            refine fg_X1_9 C hP 0 rfl rfl dX1_countedLanes_53 ?_
            refine z_imul (v := 200 * u1) C dX1_countedLanes_56 rfl ?_
            exact z_iret' (200 * u1) (w' := q_X1_countedLanes cy t0 t1 t2 t3 u1 u2 u3 u4 u5 u6 u7 u8 fl fb fd) (r0 := (fun (o : Int32) => o)) (by simp only [n_X1_countedLanes, if_pos c_1, if_pos c_2, if_pos c_10, if_neg c_14, if_neg c_15]) C hRT hP hD hS (Nat.le_of_ble_eq_true rfl) (Nat.le_of_ble_eq_true rfl) rfl rfl dX1_countedLanes_57
          · refine lv_iinc (v := 3) (lv' := [(1, .int 3), (5, .int (fl 3)), (4, .int 3), (3, .int 4), (2, .ref t1), (0, .ref t0)]) hX hB dX1_countedLanes_39 hl (k := 2) rfl (by decide) (by decide) rfl (fun ls hl => ?_)
            refine lv_iinc (v := 4) (lv' := [(4, .int 4), (1, .int 3), (5, .int (fl 3)), (3, .int 4), (2, .ref t1), (0, .ref t0)]) hX hB dX1_countedLanes_42 hl (k := 2) rfl (by decide) (by decide) rfl (fun ls hl => ?_)
            refine lv_goto (tgt := 22) hX hB dX1_countedLanes_45 (by decide) ?_
            refine lv_iload hX hB dX1_countedLanes_22 (lv_at hl 0 rfl) ?_
            refine lv_iload_n hX hB dX1_countedLanes_24 rfl (lv_at hl 3 rfl) ?_
            refine lv_icmp_ge (tgt := 48) hX hB dX1_countedLanes_25 (by decide) (fun _ => ?_) (fun c => absurd (by decide) c)
            refine lv_iload_n hX hB dX1_countedLanes_48 rfl (lv_at hl 1 rfl) ?_
            refine lv_bipush (v := 100) hX hB dX1_countedLanes_49 (by decide) ?_
            refine z_imul (v := 300) C dX1_countedLanes_51 (by decide) ?_
            refine lv_aload_n hX hB dX1_countedLanes_52 rfl (lv_at hl 5 rfl) ?_
            refine fg_X1_9 C hP 0 rfl rfl dX1_countedLanes_53 ?_
            refine z_imul (v := 300 * u1) C dX1_countedLanes_56 rfl ?_
            exact z_iret' (300 * u1) (w' := q_X1_countedLanes cy t0 t1 t2 t3 u1 u2 u3 u4 u5 u6 u7 u8 fl fb fd) (r0 := (fun (o : Int32) => o)) (by simp only [n_X1_countedLanes, if_pos c_1, if_pos c_2, if_pos c_10, if_neg c_14, if_pos c_15]) C hRT hP hD hS (Nat.le_of_ble_eq_true rfl) (Nat.le_of_ble_eq_true rfl) rfl rfl dX1_countedLanes_57
        · refine lv_iinc (v := 3) (lv' := [(1, .int 3), (5, .int (fl 2)), (4, .int 2), (3, .int 4), (2, .ref t1), (0, .ref t0)]) hX hB dX1_countedLanes_39 hl (k := 2) rfl (by decide) (by decide) rfl (fun ls hl => ?_)
          refine lv_iinc (v := 3) (lv' := [(4, .int 3), (1, .int 3), (5, .int (fl 2)), (3, .int 4), (2, .ref t1), (0, .ref t0)]) hX hB dX1_countedLanes_42 hl (k := 2) rfl (by decide) (by decide) rfl (fun ls hl => ?_)
          refine lv_goto (tgt := 22) hX hB dX1_countedLanes_45 (by decide) ?_
          refine lv_iload hX hB dX1_countedLanes_22 (lv_at hl 0 rfl) ?_
          refine lv_iload_n hX hB dX1_countedLanes_24 rfl (lv_at hl 3 rfl) ?_
          refine lv_icmp_ge (tgt := 48) hX hB dX1_countedLanes_25 (by decide) (fun c => absurd c (by decide)) (fun _ => ?_)
          refine lv_aload_n hX hB dX1_countedLanes_28 rfl (lv_at hl 4 rfl) ?_
          refine lv_iload hX hB dX1_countedLanes_29 (lv_at hl 0 rfl) ?_
          refine z_zald C hP 1 rfl (k := 3) (zlit 3) (by decide) (by decide) (v := fl 3) rfl dX1_countedLanes_31 ?_
          refine lv_istore (lv' := [(5, .int (fl 3)), (4, .int 3), (1, .int 3), (3, .int 4), (2, .ref t1), (0, .ref t0)]) hX hB dX1_countedLanes_32 hl (by decide) rfl (fun ls hl => ?_)
          refine lv_iload hX hB dX1_countedLanes_34 (lv_at hl 0 rfl) ?_
          refine lv_if_ne (tgt := 42) hX hB dX1_countedLanes_36 (by decide) (fun c_16 => ?_) (fun c_16 => ?_)
          · refine lv_iinc (v := 4) (lv' := [(4, .int 4), (5, .int (fl 3)), (1, .int 3), (3, .int 4), (2, .ref t1), (0, .ref t0)]) hX hB dX1_countedLanes_42 hl (k := 1) rfl (by decide) (by decide) rfl (fun ls hl => ?_)
            refine lv_goto (tgt := 22) hX hB dX1_countedLanes_45 (by decide) ?_
            refine lv_iload hX hB dX1_countedLanes_22 (lv_at hl 0 rfl) ?_
            refine lv_iload_n hX hB dX1_countedLanes_24 rfl (lv_at hl 3 rfl) ?_
            refine lv_icmp_ge (tgt := 48) hX hB dX1_countedLanes_25 (by decide) (fun _ => ?_) (fun c => absurd (by decide) c)
            refine lv_iload_n hX hB dX1_countedLanes_48 rfl (lv_at hl 2 rfl) ?_
            refine lv_bipush (v := 100) hX hB dX1_countedLanes_49 (by decide) ?_
            refine z_imul (v := 300) C dX1_countedLanes_51 (by decide) ?_
            refine lv_aload_n hX hB dX1_countedLanes_52 rfl (lv_at hl 5 rfl) ?_
            refine fg_X1_9 C hP 0 rfl rfl dX1_countedLanes_53 ?_
            refine z_imul (v := 300 * u1) C dX1_countedLanes_56 rfl ?_
            exact z_iret' (300 * u1) (w' := q_X1_countedLanes cy t0 t1 t2 t3 u1 u2 u3 u4 u5 u6 u7 u8 fl fb fd) (r0 := (fun (o : Int32) => o)) (by simp only [n_X1_countedLanes, if_pos c_1, if_pos c_2, if_pos c_10, if_pos c_14, if_neg c_16]) C hRT hP hD hS (Nat.le_of_ble_eq_true rfl) (Nat.le_of_ble_eq_true rfl) rfl rfl dX1_countedLanes_57
          · refine lv_iinc (v := 4) (lv' := [(1, .int 4), (5, .int (fl 3)), (4, .int 3), (3, .int 4), (2, .ref t1), (0, .ref t0)]) hX hB dX1_countedLanes_39 hl (k := 2) rfl (by decide) (by decide) rfl (fun ls hl => ?_)
            refine lv_iinc (v := 4) (lv' := [(4, .int 4), (1, .int 4), (5, .int (fl 3)), (3, .int 4), (2, .ref t1), (0, .ref t0)]) hX hB dX1_countedLanes_42 hl (k := 2) rfl (by decide) (by decide) rfl (fun ls hl => ?_)
            refine lv_goto (tgt := 22) hX hB dX1_countedLanes_45 (by decide) ?_
            refine lv_iload hX hB dX1_countedLanes_22 (lv_at hl 0 rfl) ?_
            refine lv_iload_n hX hB dX1_countedLanes_24 rfl (lv_at hl 3 rfl) ?_
            refine lv_icmp_ge (tgt := 48) hX hB dX1_countedLanes_25 (by decide) (fun _ => ?_) (fun c => absurd (by decide) c)
            refine lv_iload_n hX hB dX1_countedLanes_48 rfl (lv_at hl 1 rfl) ?_
            refine lv_bipush (v := 100) hX hB dX1_countedLanes_49 (by decide) ?_
            refine z_imul (v := 400) C dX1_countedLanes_51 (by decide) ?_
            refine lv_aload_n hX hB dX1_countedLanes_52 rfl (lv_at hl 5 rfl) ?_
            refine fg_X1_9 C hP 0 rfl rfl dX1_countedLanes_53 ?_
            refine z_imul (v := 400 * u1) C dX1_countedLanes_56 rfl ?_
            exact z_iret' (400 * u1) (w' := q_X1_countedLanes cy t0 t1 t2 t3 u1 u2 u3 u4 u5 u6 u7 u8 fl fb fd) (r0 := (fun (o : Int32) => o)) (by simp only [n_X1_countedLanes, if_pos c_1, if_pos c_2, if_pos c_10, if_pos c_14, if_pos c_16]) C hRT hP hD hS (Nat.le_of_ble_eq_true rfl) (Nat.le_of_ble_eq_true rfl) rfl rfl dX1_countedLanes_57
  · refine lv_iconst (v := 0) hX hB dX1_countedLanes_7 (by decide) ?_
    exact z_iret' 0 (w' := q_X1_countedLanes cy t0 t1 t2 t3 u1 u2 u3 u4 u5 u6 u7 u8 fl fb fd) (r0 := (fun (o : Int32) => o)) (by simp only [n_X1_countedLanes, if_neg c_1]) C hRT hP hD hS (Nat.le_of_ble_eq_true rfl) (Nat.le_of_ble_eq_true rfl) rfl rfl dX1_countedLanes_8

def n_X1_shake (u4 : Int32) (u5 : Int32) (u7 : Int32) (x : Int32) : Int32 × Int32 × Int32 :=
  if u7 = 0 then
    if u4 + x < 5 then
      (u4 + x, u5, u7)
    else
      if u5 + 1 < 3 then
        (0, u5 + 1, 0)
      else
        (0, u5 + 1, 1)
  else
    (u4, u5, u7)
def q_X1_shake (cy : Nat → ClassId) (t0 : Nat) (t1 : Nat) (t2 : Nat) (t3 : Nat) (u1 : Int32) (u2 : Int32) (u3 : Int32) (u6 : Int32) (u8 : Int32) (fl : Nat → Int32) (fb : Nat → Int32) (fd : Nat → Int32) (o : Int32 × Int32 × Int32) : va_W := [(t0, .inr (4, [.int u1, .ref t1, .ref t2, .ref t3, .int u2, .int u3, .int o.1, .int o.2.1, .int u6, .int o.2.2, .int u8])), (t1, .inl (cy 1, 4, .inl (fl))), (t2, .inl (cy 0, 3, .inl (fb))), (t3, .inl (cy 1, 5, .inl (fd)))]
set_option maxHeartbeats 4000000 in
set_option maxRecDepth 100000 in
theorem c_X1_shake (l : Launch) {E : zEn} (hE : zEok E) (D : zG) (cy : Nat → ClassId) (t0 t1 t2 t3 : Nat) (u1 : Int32) (u2 : Int32) (u3 : Int32) (u4 : Int32) (u5 : Int32) (u6 : Int32) (u7 : Int32) (u8 : Int32) (fl : Nat → Int32) (fb : Nat → Int32) (fd : Nat → Int32) (x : Int32)  (sz : Nat) : Met l yX1_shake (zws yX1_shake cX1_shake 2 none) { frames := 0, cells := 0, slots := 0, locals := 0 } (zPre E D cy [.ref t0, .int x] [(t0, .inr (4, [.int u1, .ref t1, .ref t2, .ref t3, .int u2, .int u3, .int u4, .int u5, .int u6, .int u7, .int u8])), (t1, .inl (cy 1, 4, .inl (fl))), (t2, .inl (cy 0, 3, .inl (fb))), (t3, .inl (cy 1, 5, .inl (fd)))] sz) (zQv D ((q_X1_shake cy t0 t1 t2 t3 u1 u2 u3 u6 u8 fl fb fd) (n_X1_shake u4 u5 u7 x)) (va_A [(t0, .inr (4, [.int u1, .ref t1, .ref t2, .ref t3, .int u2, .int u3, .int u4, .int u5, .int u6, .int u7, .int u8])), (t1, .inl (cy 1, 4, .inl (fl))), (t2, .inl (cy 0, 3, .inl (fb))), (t3, .inl (cy 1, 5, .inl (fd)))] sz)) 0 0 (va_A [(t0, .inr (4, [.int u1, .ref t1, .ref t2, .ref t3, .int u2, .int u3, .int u4, .int u5, .int u6, .int u7, .int u8])), (t1, .inl (cy 1, 4, .inl (fl))), (t2, .inl (cy 0, 3, .inl (fb))), (t3, .inl (cy 1, 5, .inl (fd)))] sz) := by
  refine z_of (Qc := fun A => zQv D ((q_X1_shake cy t0 t1 t2 t3 u1 u2 u3 u6 u8 fl fb fd) (n_X1_shake u4 u5 u7 x)) A) (by decide +kernel) (Nat.le_of_ble_eq_true rfl) rfl ?_
  intro pG eN sT mI below meth cO A ls C hRT hnm hA hP hD hS hE0 hl
  have hX := C.x
  have hB := C.b
  refine lv_aload_n hX hB dX1_shake_0 rfl (lv_at hl 0 rfl) ?_
  refine fg_X1_45 C hP 0 rfl rfl dX1_shake_1 ?_
  refine lv_if_eq (tgt := 8) hX hB dX1_shake_4 (by decide) (fun c_1 => ?_) (fun c_1 => ?_)
  · refine lv_aload_n hX hB dX1_shake_8 rfl (lv_at hl 0 rfl) ?_
    refine lv_dup hX hB dX1_shake_9 rfl ?_
    refine fg_X1_36 C hP 0 rfl rfl dX1_shake_10 ?_
    refine lv_iload_n hX hB dX1_shake_13 rfl (lv_at hl 1 rfl) ?_
    refine z_iadd (v := u4 + x) C dX1_shake_14 rfl ?_
    refine fp_X1_36 C hP hD hS 0 rfl rfl rfl (Nat.le_of_ble_eq_true rfl) (w' := [(t0, .inr (4, [.int u1, .ref t1, .ref t2, .ref t3, .int u2, .int u3, .int (u4 + x), .int u5, .int u6, .int u7, .int u8])), (t1, .inl (cy 1, 4, .inl (fl))), (t2, .inl (cy 0, 3, .inl (fb))), (t3, .inl (cy 1, 5, .inl (fd)))]) rfl dX1_shake_15 (fun H locs hP hD hS => ?_)
    refine lv_aload_n hX hB dX1_shake_18 rfl (lv_at hl 0 rfl) ?_
    refine fg_X1_36 C hP 0 rfl rfl dX1_shake_19 ?_
    refine lv_iconst (v := 5) hX hB dX1_shake_22 (by decide) ?_
    refine lv_icmp_lt (tgt := 58) hX hB dX1_shake_23 (by decide) (fun c_2 => ?_) (fun c_2 => ?_)
    · exact z_vret' (u4 + x, u5, u7) (w' := q_X1_shake cy t0 t1 t2 t3 u1 u2 u3 u6 u8 fl fb fd) (by simp only [n_X1_shake, if_pos c_1, if_pos c_2]) C hRT hP hD hS (Nat.le_of_ble_eq_true rfl) (Nat.le_of_ble_eq_true rfl) rfl dX1_shake_58
    · refine lv_aload_n hX hB dX1_shake_26 rfl (lv_at hl 0 rfl) ?_
      refine lv_iconst (v := 0) hX hB dX1_shake_27 (by decide) ?_
      refine fp_X1_36 C hP hD hS 0 rfl rfl rfl (Nat.le_of_ble_eq_true rfl) (w' := [(t0, .inr (4, [.int u1, .ref t1, .ref t2, .ref t3, .int u2, .int u3, .int 0, .int u5, .int u6, .int u7, .int u8])), (t1, .inl (cy 1, 4, .inl (fl))), (t2, .inl (cy 0, 3, .inl (fb))), (t3, .inl (cy 1, 5, .inl (fd)))]) rfl dX1_shake_28 (fun H locs hP hD hS => ?_)
      refine lv_aload_n hX hB dX1_shake_31 rfl (lv_at hl 0 rfl) ?_
      refine lv_dup hX hB dX1_shake_32 rfl ?_
      refine fg_X1_39 C hP 0 rfl rfl dX1_shake_33 ?_
      refine lv_iconst (v := 1) hX hB dX1_shake_36 (by decide) ?_
      refine z_iadd (v := u5 + 1) C dX1_shake_37 rfl ?_
      refine fp_X1_39 C hP hD hS 0 rfl rfl rfl (Nat.le_of_ble_eq_true rfl) (w' := [(t0, .inr (4, [.int u1, .ref t1, .ref t2, .ref t3, .int u2, .int u3, .int 0, .int (u5 + 1), .int u6, .int u7, .int u8])), (t1, .inl (cy 1, 4, .inl (fl))), (t2, .inl (cy 0, 3, .inl (fb))), (t3, .inl (cy 1, 5, .inl (fd)))]) rfl dX1_shake_38 (fun H locs hP hD hS => ?_)
      refine lv_aload_n hX hB dX1_shake_41 rfl (lv_at hl 0 rfl) ?_
      refine lv_aload_n hX hB dX1_shake_42 rfl (lv_at hl 0 rfl) ?_
      refine fg_X1_39 C hP 0 rfl rfl dX1_shake_43 ?_
      refine lv_iconst (v := 3) hX hB dX1_shake_46 (by decide) ?_
      refine lv_icmp_lt (tgt := 54) hX hB dX1_shake_47 (by decide) (fun c_3 => ?_) (fun c_3 => ?_)
      · refine lv_iconst (v := 0) hX hB dX1_shake_54 (by decide) ?_
        refine fp_X1_45 C hP hD hS 0 rfl (zb01 (Or.inl rfl)) (zfitb (Or.inl rfl)) (Nat.le_of_ble_eq_true rfl) (w' := [(t0, .inr (4, [.int u1, .ref t1, .ref t2, .ref t3, .int u2, .int u3, .int 0, .int (u5 + 1), .int u6, .int 0, .int u8])), (t1, .inl (cy 1, 4, .inl (fl))), (t2, .inl (cy 0, 3, .inl (fb))), (t3, .inl (cy 1, 5, .inl (fd)))]) rfl dX1_shake_55 (fun H locs hP hD hS => ?_)
        exact z_vret' (0, u5 + 1, 0) (w' := q_X1_shake cy t0 t1 t2 t3 u1 u2 u3 u6 u8 fl fb fd) (by simp only [n_X1_shake, if_pos c_1, if_neg c_2, if_pos c_3]) C hRT hP hD hS (Nat.le_of_ble_eq_true rfl) (Nat.le_of_ble_eq_true rfl) rfl dX1_shake_58
      · refine lv_iconst (v := 1) hX hB dX1_shake_50 (by decide) ?_
        refine lv_goto (tgt := 55) hX hB dX1_shake_51 (by decide) ?_
        refine fp_X1_45 C hP hD hS 0 rfl (zb01 (Or.inr rfl)) (zfitb (Or.inr rfl)) (Nat.le_of_ble_eq_true rfl) (w' := [(t0, .inr (4, [.int u1, .ref t1, .ref t2, .ref t3, .int u2, .int u3, .int 0, .int (u5 + 1), .int u6, .int 1, .int u8])), (t1, .inl (cy 1, 4, .inl (fl))), (t2, .inl (cy 0, 3, .inl (fb))), (t3, .inl (cy 1, 5, .inl (fd)))]) rfl dX1_shake_55 (fun H locs hP hD hS => ?_)
        exact z_vret' (0, u5 + 1, 1) (w' := q_X1_shake cy t0 t1 t2 t3 u1 u2 u3 u6 u8 fl fb fd) (by simp only [n_X1_shake, if_pos c_1, if_neg c_2, if_neg c_3]) C hRT hP hD hS (Nat.le_of_ble_eq_true rfl) (Nat.le_of_ble_eq_true rfl) rfl dX1_shake_58
  · exact z_vret' (u4, u5, u7) (w' := q_X1_shake cy t0 t1 t2 t3 u1 u2 u3 u6 u8 fl fb fd) (by simp only [n_X1_shake, if_neg c_1]) C hRT hP hD hS (Nat.le_of_ble_eq_true rfl) (Nat.le_of_ble_eq_true rfl) rfl dX1_shake_7

def n_X1_bumperSeries (u1 : Int32) (u7 : Int32) (fb : Nat → Int32) (y : Int32) (k : Nat) : Int32 :=
  if u7 = 0 then
    ((((if ((200 - (fb k)) / 10) < y then (200 - (fb k)) / 10 else y) * (fb k)) + (10 * (((if ((200 - (fb k)) / 10) < y then (200 - (fb k)) / 10 else y) * ((if ((200 - (fb k)) / 10) < y then (200 - (fb k)) / 10 else y) - 1)) / 2))) + ((y - (if ((200 - (fb k)) / 10) < y then (200 - (fb k)) / 10 else y)) * 200)) * u1
  else
    0
def q_X1_bumperSeries (cy : Nat → ClassId) (t0 : Nat) (t1 : Nat) (t2 : Nat) (t3 : Nat) (u1 : Int32) (u2 : Int32) (u3 : Int32) (u4 : Int32) (u5 : Int32) (u6 : Int32) (u7 : Int32) (u8 : Int32) (fl : Nat → Int32) (fb : Nat → Int32) (fd : Nat → Int32) (o : Int32) : va_W := [(t0, .inr (4, [.int u1, .ref t1, .ref t2, .ref t3, .int u2, .int u3, .int u4, .int u5, .int u6, .int u7, .int u8])), (t1, .inl (cy 1, 4, .inl (fl))), (t2, .inl (cy 0, 3, .inl (fb))), (t3, .inl (cy 1, 5, .inl (fd)))]
set_option maxHeartbeats 4000000 in
set_option maxRecDepth 100000 in
theorem c_X1_bumperSeries (l : Launch) {E : zEn} (hE : zEok E) (D : zG) (cy : Nat → ClassId) (t0 t1 t2 t3 : Nat) (u1 : Int32) (u2 : Int32) (u3 : Int32) (u4 : Int32) (u5 : Int32) (u6 : Int32) (u7 : Int32) (u8 : Int32) (fl : Nat → Int32) (fb : Nat → Int32) (fd : Nat → Int32) (x : Int32) (y : Int32) (k : Nat) (hx : zi x k) (hxb : k ≤ 2) (sz : Nat) : Met l yX1_bumperSeries (zws yX1_bumperSeries cX1_bumperSeries 6 (some .int)) { frames := 1, cells := 0, slots := 0, locals := 13 } (zPre E D cy [.ref t0, .int x, .int y] [(t0, .inr (4, [.int u1, .ref t1, .ref t2, .ref t3, .int u2, .int u3, .int u4, .int u5, .int u6, .int u7, .int u8])), (t1, .inl (cy 1, 4, .inl (fl))), (t2, .inl (cy 0, 3, .inl (fb))), (t3, .inl (cy 1, 5, .inl (fd)))] sz) (zQi D ((q_X1_bumperSeries cy t0 t1 t2 t3 u1 u2 u3 u4 u5 u6 u7 u8 fl fb fd) (n_X1_bumperSeries u1 u7 fb y k)) (va_A [(t0, .inr (4, [.int u1, .ref t1, .ref t2, .ref t3, .int u2, .int u3, .int u4, .int u5, .int u6, .int u7, .int u8])), (t1, .inl (cy 1, 4, .inl (fl))), (t2, .inl (cy 0, 3, .inl (fb))), (t3, .inl (cy 1, 5, .inl (fd)))] sz) ((n_X1_bumperSeries u1 u7 fb y k))) 0 0 (va_A [(t0, .inr (4, [.int u1, .ref t1, .ref t2, .ref t3, .int u2, .int u3, .int u4, .int u5, .int u6, .int u7, .int u8])), (t1, .inl (cy 1, 4, .inl (fl))), (t2, .inl (cy 0, 3, .inl (fb))), (t3, .inl (cy 1, 5, .inl (fd)))] sz) := by
  refine z_of (Qc := fun A => zQi D ((q_X1_bumperSeries cy t0 t1 t2 t3 u1 u2 u3 u4 u5 u6 u7 u8 fl fb fd) (n_X1_bumperSeries u1 u7 fb y k)) A ((n_X1_bumperSeries u1 u7 fb y k))) (by decide +kernel) (Nat.le_of_ble_eq_true rfl) rfl ?_
  intro pG eN sT mI below meth cO A ls C hRT hnm hA hP hD hS hE0 hl
  have hX := C.x
  have hB := C.b
  refine lv_aload_n hX hB dX1_bumperSeries_0 rfl (lv_at hl 0 rfl) ?_
  refine fg_X1_45 C hP 0 rfl rfl dX1_bumperSeries_1 ?_
  refine lv_if_eq (tgt := 9) hX hB dX1_bumperSeries_4 (by decide) (fun c_1 => ?_) (fun c_1 => ?_)
  · refine lv_aload_n hX hB dX1_bumperSeries_9 rfl (lv_at hl 0 rfl) ?_
    refine fg_X1_19 C hP 0 rfl rfl dX1_bumperSeries_10 ?_
    refine lv_iload_n hX hB dX1_bumperSeries_13 rfl (lv_at hl 1 rfl) ?_
    refine z_iald C hP 2 rfl (k := k) hx (by omega) (by decide) (v := fb k) rfl dX1_bumperSeries_14 ?_
    refine lv_istore_n (lv' := [(3, .int (fb k)), (0, .ref t0), (1, .int x), (2, .int y)]) hX hB dX1_bumperSeries_15 rfl hl (by decide) rfl (fun ls hl => ?_)
    refine lv_iload_n hX hB dX1_bumperSeries_16 rfl (lv_at hl 3 rfl) ?_
    refine lv_sipush (v := 200) hX hB dX1_bumperSeries_17 (by decide) ?_
    refine lv_iload_n hX hB dX1_bumperSeries_20 rfl (lv_at hl 0 rfl) ?_
    refine z_isub (v := 200 - (fb k)) C dX1_bumperSeries_21 rfl ?_
    refine lv_bipush (v := 10) hX hB dX1_bumperSeries_22 (by decide) ?_
    refine z_idiv (v := (200 - (fb k)) / 10) C dX1_bumperSeries_24 (by decide) rfl ?_
    refine va_mmin hX hB (C.2.2.1.trans hl.1.symm) C.o (C.ts _ zm305) (C.ts _ zm198) (C.ts _ zm199) (C.ts _ zm200) (Nat.le_of_ble_eq_true rfl) (Nat.le_of_ble_eq_true rfl) (Nat.le_of_ble_eq_true rfl) (Nat.le_of_ble_eq_true rfl) dX1_bumperSeries_25 ?_
    refine lv_istore (lv' := [(4, .int (if ((200 - (fb k)) / 10) < y then (200 - (fb k)) / 10 else y)), (3, .int (fb k)), (0, .ref t0), (1, .int x), (2, .int y)]) hX hB dX1_bumperSeries_28 hl (by decide) rfl (fun ls hl => ?_)
    refine lv_iload hX hB dX1_bumperSeries_30 (lv_at hl 0 rfl) ?_
    refine lv_iload_n hX hB dX1_bumperSeries_32 rfl (lv_at hl 1 rfl) ?_
    refine z_imul (v := (if ((200 - (fb k)) / 10) < y then (200 - (fb k)) / 10 else y) * (fb k)) C dX1_bumperSeries_33 rfl ?_
    refine lv_bipush (v := 10) hX hB dX1_bumperSeries_34 (by decide) ?_
    refine lv_iload hX hB dX1_bumperSeries_36 (lv_at hl 0 rfl) ?_
    refine lv_iload hX hB dX1_bumperSeries_38 (lv_at hl 0 rfl) ?_
    refine lv_iconst (v := 1) hX hB dX1_bumperSeries_40 (by decide) ?_
    refine z_isub (v := (if ((200 - (fb k)) / 10) < y then (200 - (fb k)) / 10 else y) - 1) C dX1_bumperSeries_41 rfl ?_
    refine z_imul (v := (if ((200 - (fb k)) / 10) < y then (200 - (fb k)) / 10 else y) * ((if ((200 - (fb k)) / 10) < y then (200 - (fb k)) / 10 else y) - 1)) C dX1_bumperSeries_42 rfl ?_
    refine lv_iconst (v := 2) hX hB dX1_bumperSeries_43 (by decide) ?_
    refine z_idiv (v := ((if ((200 - (fb k)) / 10) < y then (200 - (fb k)) / 10 else y) * ((if ((200 - (fb k)) / 10) < y then (200 - (fb k)) / 10 else y) - 1)) / 2) C dX1_bumperSeries_44 (by decide) rfl ?_
    refine z_imul (v := 10 * (((if ((200 - (fb k)) / 10) < y then (200 - (fb k)) / 10 else y) * ((if ((200 - (fb k)) / 10) < y then (200 - (fb k)) / 10 else y) - 1)) / 2)) C dX1_bumperSeries_45 rfl ?_
    refine z_iadd (v := ((if ((200 - (fb k)) / 10) < y then (200 - (fb k)) / 10 else y) * (fb k)) + (10 * (((if ((200 - (fb k)) / 10) < y then (200 - (fb k)) / 10 else y) * ((if ((200 - (fb k)) / 10) < y then (200 - (fb k)) / 10 else y) - 1)) / 2))) C dX1_bumperSeries_46 rfl ?_
    refine lv_istore (lv' := [(5, .int (((if ((200 - (fb k)) / 10) < y then (200 - (fb k)) / 10 else y) * (fb k)) + (10 * (((if ((200 - (fb k)) / 10) < y then (200 - (fb k)) / 10 else y) * ((if ((200 - (fb k)) / 10) < y then (200 - (fb k)) / 10 else y) - 1)) / 2)))), (4, .int (if ((200 - (fb k)) / 10) < y then (200 - (fb k)) / 10 else y)), (3, .int (fb k)), (0, .ref t0), (1, .int x), (2, .int y)]) hX hB dX1_bumperSeries_47 hl (by decide) rfl (fun ls hl => ?_)
    refine lv_iload hX hB dX1_bumperSeries_49 (lv_at hl 0 rfl) ?_
    refine lv_iload_n hX hB dX1_bumperSeries_51 rfl (lv_at hl 5 rfl) ?_
    refine lv_iload hX hB dX1_bumperSeries_52 (lv_at hl 1 rfl) ?_
    refine z_isub (v := y - (if ((200 - (fb k)) / 10) < y then (200 - (fb k)) / 10 else y)) C dX1_bumperSeries_54 rfl ?_
    refine lv_sipush (v := 200) hX hB dX1_bumperSeries_55 (by decide) ?_
    refine z_imul (v := (y - (if ((200 - (fb k)) / 10) < y then (200 - (fb k)) / 10 else y)) * 200) C dX1_bumperSeries_58 rfl ?_
    refine z_iadd (v := (((if ((200 - (fb k)) / 10) < y then (200 - (fb k)) / 10 else y) * (fb k)) + (10 * (((if ((200 - (fb k)) / 10) < y then (200 - (fb k)) / 10 else y) * ((if ((200 - (fb k)) / 10) < y then (200 - (fb k)) / 10 else y) - 1)) / 2))) + ((y - (if ((200 - (fb k)) / 10) < y then (200 - (fb k)) / 10 else y)) * 200)) C dX1_bumperSeries_59 rfl ?_
    refine lv_aload_n hX hB dX1_bumperSeries_60 rfl (lv_at hl 3 rfl) ?_
    refine fg_X1_9 C hP 0 rfl rfl dX1_bumperSeries_61 ?_
    refine z_imul (v := ((((if ((200 - (fb k)) / 10) < y then (200 - (fb k)) / 10 else y) * (fb k)) + (10 * (((if ((200 - (fb k)) / 10) < y then (200 - (fb k)) / 10 else y) * ((if ((200 - (fb k)) / 10) < y then (200 - (fb k)) / 10 else y) - 1)) / 2))) + ((y - (if ((200 - (fb k)) / 10) < y then (200 - (fb k)) / 10 else y)) * 200)) * u1) C dX1_bumperSeries_64 rfl ?_
    exact z_iret' (((((if ((200 - (fb k)) / 10) < y then (200 - (fb k)) / 10 else y) * (fb k)) + (10 * (((if ((200 - (fb k)) / 10) < y then (200 - (fb k)) / 10 else y) * ((if ((200 - (fb k)) / 10) < y then (200 - (fb k)) / 10 else y) - 1)) / 2))) + ((y - (if ((200 - (fb k)) / 10) < y then (200 - (fb k)) / 10 else y)) * 200)) * u1) (w' := q_X1_bumperSeries cy t0 t1 t2 t3 u1 u2 u3 u4 u5 u6 u7 u8 fl fb fd) (r0 := (fun (o : Int32) => o)) (by simp only [n_X1_bumperSeries, if_pos c_1]) C hRT hP hD hS (Nat.le_of_ble_eq_true rfl) (Nat.le_of_ble_eq_true rfl) rfl rfl dX1_bumperSeries_65
  · refine lv_iconst (v := 0) hX hB dX1_bumperSeries_7 (by decide) ?_
    exact z_iret' 0 (w' := q_X1_bumperSeries cy t0 t1 t2 t3 u1 u2 u3 u4 u5 u6 u7 u8 fl fb fd) (r0 := (fun (o : Int32) => o)) (by simp only [n_X1_bumperSeries, if_neg c_1]) C hRT hP hD hS (Nat.le_of_ble_eq_true rfl) (Nat.le_of_ble_eq_true rfl) rfl rfl dX1_bumperSeries_8

def n_X1_copyFrom (fl : Nat → Int32) (fb : Nat → Int32) (fd : Nat → Int32) (u1b : Int32) (u2b : Int32) (u3b : Int32) (u4b : Int32) (u5b : Int32) (u6b : Int32) (u7b : Int32) (u8b : Int32) (flb : Nat → Int32) (fbb : Nat → Int32) (fdb : Nat → Int32) : Int32 × Int32 × Int32 × Int32 × Int32 × Int32 × Int32 × Int32 × (Nat → Int32) × (Nat → Int32) × (Nat → Int32) :=
  (u1b, u2b, u3b, u4b, u5b, u6b, u7b, u8b, upd (upd (upd (upd fl 0 (flb 0)) 1 (flb 1)) 2 (flb 2)) 3 (flb 3), va_cpy fbb fb 0 0 3, upd (upd (upd (upd (upd fd 0 (fdb 0)) 1 (fdb 1)) 2 (fdb 2)) 3 (fdb 3)) 4 (fdb 4))
def q_X1_copyFrom (cy : Nat → ClassId) (t0 : Nat) (t1 : Nat) (t2 : Nat) (t3 : Nat) (s0 : Nat) (s1 : Nat) (s2 : Nat) (s3 : Nat) (u1b : Int32) (u2b : Int32) (u3b : Int32) (u4b : Int32) (u5b : Int32) (u6b : Int32) (u7b : Int32) (u8b : Int32) (flb : Nat → Int32) (fbb : Nat → Int32) (fdb : Nat → Int32) (o : Int32 × Int32 × Int32 × Int32 × Int32 × Int32 × Int32 × Int32 × (Nat → Int32) × (Nat → Int32) × (Nat → Int32)) : va_W := [(t0, .inr (4, [.int o.1, .ref t1, .ref t2, .ref t3, .int o.2.1, .int o.2.2.1, .int o.2.2.2.1, .int o.2.2.2.2.1, .int o.2.2.2.2.2.1, .int o.2.2.2.2.2.2.1, .int o.2.2.2.2.2.2.2.1])), (t1, .inl (cy 1, 4, .inl (o.2.2.2.2.2.2.2.2.1))), (t2, .inl (cy 0, 3, .inl (o.2.2.2.2.2.2.2.2.2.1))), (t3, .inl (cy 1, 5, .inl (o.2.2.2.2.2.2.2.2.2.2))), (s0, .inr (4, [.int u1b, .ref s1, .ref s2, .ref s3, .int u2b, .int u3b, .int u4b, .int u5b, .int u6b, .int u7b, .int u8b])), (s1, .inl (cy 1, 4, .inl (flb))), (s2, .inl (cy 0, 3, .inl (fbb))), (s3, .inl (cy 1, 5, .inl (fdb)))]
theorem k_X1_copyFrom_8 (fl : Nat → Int32) (fb : Nat → Int32) (fd : Nat → Int32) (u1b : Int32) (u2b : Int32) (u3b : Int32) (u4b : Int32) (u5b : Int32) (u6b : Int32) (u7b : Int32) (u8b : Int32) (flb : Nat → Int32) (fbb : Nat → Int32) (fdb : Nat → Int32)  (j : Nat) (hj : ¬ (0 ≤ j ∧ j ≤ 3)) : (n_X1_copyFrom fl fb fd u1b u2b u3b u4b u5b u6b u7b u8b flb fbb fdb).2.2.2.2.2.2.2.2.1 j = fl j := by
  simp only [n_X1_copyFrom]
  repeat (any_goals split)
  all_goals (try simp (disch := omega) only [pk_un])
theorem k_X1_copyFrom_10 (fl : Nat → Int32) (fb : Nat → Int32) (fd : Nat → Int32) (u1b : Int32) (u2b : Int32) (u3b : Int32) (u4b : Int32) (u5b : Int32) (u6b : Int32) (u7b : Int32) (u8b : Int32) (flb : Nat → Int32) (fbb : Nat → Int32) (fdb : Nat → Int32)  (j : Nat) (hj : ¬ (0 ≤ j ∧ j ≤ 4)) : (n_X1_copyFrom fl fb fd u1b u2b u3b u4b u5b u6b u7b u8b flb fbb fdb).2.2.2.2.2.2.2.2.2.2 j = fd j := by
  simp only [n_X1_copyFrom]
  repeat (any_goals split)
  all_goals (try simp (disch := omega) only [pk_un])
set_option maxHeartbeats 4000000 in
set_option maxRecDepth 100000 in
theorem c_X1_copyFrom (l : Launch) {E : zEn} (hE : zEok E) (D : zG) (cy : Nat → ClassId) (hO : zOut E) (t0 t1 t2 t3 s0 s1 s2 s3 : Nat) (u1 : Int32) (u2 : Int32) (u3 : Int32) (u4 : Int32) (u5 : Int32) (u6 : Int32) (u7 : Int32) (u8 : Int32) (fl : Nat → Int32) (fb : Nat → Int32) (fd : Nat → Int32) (u1b : Int32) (u2b : Int32) (u3b : Int32) (u4b : Int32) (u5b : Int32) (u6b : Int32) (u7b : Int32) (u8b : Int32) (flb : Nat → Int32) (fbb : Nat → Int32) (fdb : Nat → Int32) (hbu7b : u7b = 0 ∨ u7b = 1) (hbu8b : u8b = 0 ∨ u8b = 1) (hzl : zbl flb 4) (hzd : zbl fdb 5) (sz : Nat) : Met l yX1_copyFrom (zws yX1_copyFrom cX1_copyFrom 2 none) { frames := 1, cells := 0, slots := 0, locals := 30 } (zPre E D cy [.ref t0, .ref s0] [(t0, .inr (4, [.int u1, .ref t1, .ref t2, .ref t3, .int u2, .int u3, .int u4, .int u5, .int u6, .int u7, .int u8])), (t1, .inl (cy 1, 4, .inl (fl))), (t2, .inl (cy 0, 3, .inl (fb))), (t3, .inl (cy 1, 5, .inl (fd))), (s0, .inr (4, [.int u1b, .ref s1, .ref s2, .ref s3, .int u2b, .int u3b, .int u4b, .int u5b, .int u6b, .int u7b, .int u8b])), (s1, .inl (cy 1, 4, .inl (flb))), (s2, .inl (cy 0, 3, .inl (fbb))), (s3, .inl (cy 1, 5, .inl (fdb)))] sz) (zQv D ((q_X1_copyFrom cy t0 t1 t2 t3 s0 s1 s2 s3 u1b u2b u3b u4b u5b u6b u7b u8b flb fbb fdb) (n_X1_copyFrom fl fb fd u1b u2b u3b u4b u5b u6b u7b u8b flb fbb fdb)) (va_A [(t0, .inr (4, [.int u1, .ref t1, .ref t2, .ref t3, .int u2, .int u3, .int u4, .int u5, .int u6, .int u7, .int u8])), (t1, .inl (cy 1, 4, .inl (fl))), (t2, .inl (cy 0, 3, .inl (fb))), (t3, .inl (cy 1, 5, .inl (fd))), (s0, .inr (4, [.int u1b, .ref s1, .ref s2, .ref s3, .int u2b, .int u3b, .int u4b, .int u5b, .int u6b, .int u7b, .int u8b])), (s1, .inl (cy 1, 4, .inl (flb))), (s2, .inl (cy 0, 3, .inl (fbb))), (s3, .inl (cy 1, 5, .inl (fdb)))] sz)) 0 0 (va_A [(t0, .inr (4, [.int u1, .ref t1, .ref t2, .ref t3, .int u2, .int u3, .int u4, .int u5, .int u6, .int u7, .int u8])), (t1, .inl (cy 1, 4, .inl (fl))), (t2, .inl (cy 0, 3, .inl (fb))), (t3, .inl (cy 1, 5, .inl (fd))), (s0, .inr (4, [.int u1b, .ref s1, .ref s2, .ref s3, .int u2b, .int u3b, .int u4b, .int u5b, .int u6b, .int u7b, .int u8b])), (s1, .inl (cy 1, 4, .inl (flb))), (s2, .inl (cy 0, 3, .inl (fbb))), (s3, .inl (cy 1, 5, .inl (fdb)))] sz) := by
  refine z_of (Qc := fun A => zQv D ((q_X1_copyFrom cy t0 t1 t2 t3 s0 s1 s2 s3 u1b u2b u3b u4b u5b u6b u7b u8b flb fbb fdb) (n_X1_copyFrom fl fb fd u1b u2b u3b u4b u5b u6b u7b u8b flb fbb fdb)) A) (by decide +kernel) (Nat.le_of_ble_eq_true rfl) rfl ?_
  intro pG eN sT mI below meth cO A ls C hRT hnm hA hP hD hS hE0 hl
  have hX := C.x
  have hB := C.b
  refine lv_aload_n hX hB dX1_copyFrom_0 rfl (lv_at hl 0 rfl) ?_
  refine lv_aload_n hX hB dX1_copyFrom_1 rfl (lv_at hl 1 rfl) ?_
  refine fg_X1_9 C hP 4 rfl rfl dX1_copyFrom_2 ?_
  refine fp_X1_9 C hP hD hS 0 rfl rfl rfl (Nat.le_of_ble_eq_true rfl) (w' := [(t0, .inr (4, [.int u1b, .ref t1, .ref t2, .ref t3, .int u2, .int u3, .int u4, .int u5, .int u6, .int u7, .int u8])), (t1, .inl (cy 1, 4, .inl (fl))), (t2, .inl (cy 0, 3, .inl (fb))), (t3, .inl (cy 1, 5, .inl (fd))), (s0, .inr (4, [.int u1b, .ref s1, .ref s2, .ref s3, .int u2b, .int u3b, .int u4b, .int u5b, .int u6b, .int u7b, .int u8b])), (s1, .inl (cy 1, 4, .inl (flb))), (s2, .inl (cy 0, 3, .inl (fbb))), (s3, .inl (cy 1, 5, .inl (fdb)))]) rfl dX1_copyFrom_5 (fun H locs hP hD hS => ?_)
  refine lv_aload_n hX hB dX1_copyFrom_8 rfl (lv_at hl 1 rfl) ?_
  refine fg_X1_15 C hP 4 rfl rfl dX1_copyFrom_9 ?_
  refine lv_aload_n hX hB dX1_copyFrom_12 rfl (lv_at hl 0 rfl) ?_
  refine fg_X1_15 C hP 0 rfl rfl dX1_copyFrom_13 ?_
  refine z_callSNv (isC := [5, 1]) (isR := [0, 2, 3, 4, 6, 7]) (isO := [0, 7, 1, 2, 3, 6, 4, 5]) (()) (q_X8_copyAll4 cy s1 t1 flb fl) (fun o_1 => [(t0, .inr (4, [.int u1b, .ref t1, .ref t2, .ref t3, .int u2, .int u3, .int u4, .int u5, .int u6, .int u7, .int u8])), (t1, .inl (cy 1, 4, .inl (upd (upd (upd (upd fl 0 (flb 0)) 1 (flb 1)) 2 (flb 2)) 3 (flb 3)))), (t2, .inl (cy 0, 3, .inl (fb))), (t3, .inl (cy 1, 5, .inl (fd))), (s0, .inr (4, [.int u1b, .ref s1, .ref s2, .ref s3, .int u2b, .int u3b, .int u4b, .int u5b, .int u6b, .int u7b, .int u8b])), (s1, .inl (cy 1, 4, .inl (flb))), (s2, .inl (cy 0, 3, .inl (fbb))), (s3, .inl (cy 1, 5, .inl (fdb)))]) (c_X8_copyAll4 l hE D cy s1 t1 flb fl hzl) hE C zs_X1_52 ((hO _ _ _ hE0).nX1_52) ⟨Nat.le_of_ble_eq_true rfl, Nat.le_of_ble_eq_true rfl⟩ hP hD hS hA hE0 ⟨rfl, rfl, rfl, by decide, rfl, rfl, rfl⟩ rfl hl.1 (Nat.le_of_ble_eq_true rfl) rfl dX1_copyFrom_16 ⟨Nat.le_of_ble_eq_true rfl, Nat.le_of_ble_eq_true rfl⟩ (fun o_1 H locs eo_1 hP hD hS => ?_)
  refine lv_aload_n hX hB dX1_copyFrom_19 rfl (lv_at hl 1 rfl) ?_
  refine fg_X1_19 C hP 4 rfl rfl dX1_copyFrom_20 ?_
  refine lv_iconst (v := 0) hX hB dX1_copyFrom_23 (by decide) ?_
  refine lv_aload_n hX hB dX1_copyFrom_24 rfl (lv_at hl 0 rfl) ?_
  refine fg_X1_19 C hP 0 rfl rfl dX1_copyFrom_25 ?_
  refine lv_iconst (v := 0) hX hB dX1_copyFrom_28 (by decide) ?_
  refine lv_iconst (v := 3) hX hB dX1_copyFrom_29 (by decide) ?_
  refine z_copy C hl.1 zm168 hP hD hS 6 2 rfl rfl 3 (by decide) (by decide) (by decide) (by decide) ⟨Nat.le_of_ble_eq_true rfl, Nat.le_of_ble_eq_true rfl⟩ (w' := [(t0, .inr (4, [.int u1b, .ref t1, .ref t2, .ref t3, .int u2, .int u3, .int u4, .int u5, .int u6, .int u7, .int u8])), (t1, .inl (cy 1, 4, .inl (upd (upd (upd (upd fl 0 (flb 0)) 1 (flb 1)) 2 (flb 2)) 3 (flb 3)))), (t2, .inl (cy 0, 3, .inl (va_cpy fbb fb 0 0 3))), (t3, .inl (cy 1, 5, .inl (fd))), (s0, .inr (4, [.int u1b, .ref s1, .ref s2, .ref s3, .int u2b, .int u3b, .int u4b, .int u5b, .int u6b, .int u7b, .int u8b])), (s1, .inl (cy 1, 4, .inl (flb))), (s2, .inl (cy 0, 3, .inl (fbb))), (s3, .inl (cy 1, 5, .inl (fdb)))]) rfl dX1_copyFrom_30 (fun H locs hP hD hS => ?_)
  refine lv_aload_n hX hB dX1_copyFrom_33 rfl (lv_at hl 1 rfl) ?_
  refine fg_X1_23 C hP 4 rfl rfl dX1_copyFrom_34 ?_
  refine lv_aload_n hX hB dX1_copyFrom_37 rfl (lv_at hl 0 rfl) ?_
  refine fg_X1_23 C hP 0 rfl rfl dX1_copyFrom_38 ?_
  refine z_callSNv (isC := [7, 3]) (isR := [0, 1, 2, 4, 5, 6]) (isO := [0, 1, 2, 7, 3, 4, 5, 6]) (()) (q_X8_copyAll5 cy s3 t3 fdb fd) (fun o_2 => [(t0, .inr (4, [.int u1b, .ref t1, .ref t2, .ref t3, .int u2, .int u3, .int u4, .int u5, .int u6, .int u7, .int u8])), (t1, .inl (cy 1, 4, .inl (upd (upd (upd (upd fl 0 (flb 0)) 1 (flb 1)) 2 (flb 2)) 3 (flb 3)))), (t2, .inl (cy 0, 3, .inl (va_cpy fbb fb 0 0 3))), (t3, .inl (cy 1, 5, .inl (upd (upd (upd (upd (upd fd 0 (fdb 0)) 1 (fdb 1)) 2 (fdb 2)) 3 (fdb 3)) 4 (fdb 4)))), (s0, .inr (4, [.int u1b, .ref s1, .ref s2, .ref s3, .int u2b, .int u3b, .int u4b, .int u5b, .int u6b, .int u7b, .int u8b])), (s1, .inl (cy 1, 4, .inl (flb))), (s2, .inl (cy 0, 3, .inl (fbb))), (s3, .inl (cy 1, 5, .inl (fdb)))]) (c_X8_copyAll5 l hE D cy s3 t3 fdb fd hzd) hE C zs_X1_52 ((hO _ _ _ hE0).nX1_52) ⟨Nat.le_of_ble_eq_true rfl, Nat.le_of_ble_eq_true rfl⟩ hP hD hS hA hE0 ⟨rfl, rfl, rfl, by decide, rfl, rfl, rfl⟩ rfl hl.1 (Nat.le_of_ble_eq_true rfl) rfl dX1_copyFrom_41 ⟨Nat.le_of_ble_eq_true rfl, Nat.le_of_ble_eq_true rfl⟩ (fun o_2 H locs eo_2 hP hD hS => ?_)
  refine lv_aload_n hX hB dX1_copyFrom_44 rfl (lv_at hl 0 rfl) ?_
  refine lv_aload_n hX hB dX1_copyFrom_45 rfl (lv_at hl 1 rfl) ?_
  refine fg_X1_30 C hP 4 rfl rfl dX1_copyFrom_46 ?_
  refine fp_X1_30 C hP hD hS 0 rfl rfl rfl (Nat.le_of_ble_eq_true rfl) (w' := [(t0, .inr (4, [.int u1b, .ref t1, .ref t2, .ref t3, .int u2b, .int u3, .int u4, .int u5, .int u6, .int u7, .int u8])), (t1, .inl (cy 1, 4, .inl (upd (upd (upd (upd fl 0 (flb 0)) 1 (flb 1)) 2 (flb 2)) 3 (flb 3)))), (t2, .inl (cy 0, 3, .inl (va_cpy fbb fb 0 0 3))), (t3, .inl (cy 1, 5, .inl (upd (upd (upd (upd (upd fd 0 (fdb 0)) 1 (fdb 1)) 2 (fdb 2)) 3 (fdb 3)) 4 (fdb 4)))), (s0, .inr (4, [.int u1b, .ref s1, .ref s2, .ref s3, .int u2b, .int u3b, .int u4b, .int u5b, .int u6b, .int u7b, .int u8b])), (s1, .inl (cy 1, 4, .inl (flb))), (s2, .inl (cy 0, 3, .inl (fbb))), (s3, .inl (cy 1, 5, .inl (fdb)))]) rfl dX1_copyFrom_49 (fun H locs hP hD hS => ?_)
  refine lv_aload_n hX hB dX1_copyFrom_52 rfl (lv_at hl 0 rfl) ?_
  refine lv_aload_n hX hB dX1_copyFrom_53 rfl (lv_at hl 1 rfl) ?_
  refine fg_X1_33 C hP 4 rfl rfl dX1_copyFrom_54 ?_
  refine fp_X1_33 C hP hD hS 0 rfl rfl rfl (Nat.le_of_ble_eq_true rfl) (w' := [(t0, .inr (4, [.int u1b, .ref t1, .ref t2, .ref t3, .int u2b, .int u3b, .int u4, .int u5, .int u6, .int u7, .int u8])), (t1, .inl (cy 1, 4, .inl (upd (upd (upd (upd fl 0 (flb 0)) 1 (flb 1)) 2 (flb 2)) 3 (flb 3)))), (t2, .inl (cy 0, 3, .inl (va_cpy fbb fb 0 0 3))), (t3, .inl (cy 1, 5, .inl (upd (upd (upd (upd (upd fd 0 (fdb 0)) 1 (fdb 1)) 2 (fdb 2)) 3 (fdb 3)) 4 (fdb 4)))), (s0, .inr (4, [.int u1b, .ref s1, .ref s2, .ref s3, .int u2b, .int u3b, .int u4b, .int u5b, .int u6b, .int u7b, .int u8b])), (s1, .inl (cy 1, 4, .inl (flb))), (s2, .inl (cy 0, 3, .inl (fbb))), (s3, .inl (cy 1, 5, .inl (fdb)))]) rfl dX1_copyFrom_57 (fun H locs hP hD hS => ?_)
  refine lv_aload_n hX hB dX1_copyFrom_60 rfl (lv_at hl 0 rfl) ?_
  refine lv_aload_n hX hB dX1_copyFrom_61 rfl (lv_at hl 1 rfl) ?_
  refine fg_X1_36 C hP 4 rfl rfl dX1_copyFrom_62 ?_
  refine fp_X1_36 C hP hD hS 0 rfl rfl rfl (Nat.le_of_ble_eq_true rfl) (w' := [(t0, .inr (4, [.int u1b, .ref t1, .ref t2, .ref t3, .int u2b, .int u3b, .int u4b, .int u5, .int u6, .int u7, .int u8])), (t1, .inl (cy 1, 4, .inl (upd (upd (upd (upd fl 0 (flb 0)) 1 (flb 1)) 2 (flb 2)) 3 (flb 3)))), (t2, .inl (cy 0, 3, .inl (va_cpy fbb fb 0 0 3))), (t3, .inl (cy 1, 5, .inl (upd (upd (upd (upd (upd fd 0 (fdb 0)) 1 (fdb 1)) 2 (fdb 2)) 3 (fdb 3)) 4 (fdb 4)))), (s0, .inr (4, [.int u1b, .ref s1, .ref s2, .ref s3, .int u2b, .int u3b, .int u4b, .int u5b, .int u6b, .int u7b, .int u8b])), (s1, .inl (cy 1, 4, .inl (flb))), (s2, .inl (cy 0, 3, .inl (fbb))), (s3, .inl (cy 1, 5, .inl (fdb)))]) rfl dX1_copyFrom_65 (fun H locs hP hD hS => ?_)
  refine lv_aload_n hX hB dX1_copyFrom_68 rfl (lv_at hl 0 rfl) ?_
  refine lv_aload_n hX hB dX1_copyFrom_69 rfl (lv_at hl 1 rfl) ?_
  refine fg_X1_39 C hP 4 rfl rfl dX1_copyFrom_70 ?_
  refine fp_X1_39 C hP hD hS 0 rfl rfl rfl (Nat.le_of_ble_eq_true rfl) (w' := [(t0, .inr (4, [.int u1b, .ref t1, .ref t2, .ref t3, .int u2b, .int u3b, .int u4b, .int u5b, .int u6, .int u7, .int u8])), (t1, .inl (cy 1, 4, .inl (upd (upd (upd (upd fl 0 (flb 0)) 1 (flb 1)) 2 (flb 2)) 3 (flb 3)))), (t2, .inl (cy 0, 3, .inl (va_cpy fbb fb 0 0 3))), (t3, .inl (cy 1, 5, .inl (upd (upd (upd (upd (upd fd 0 (fdb 0)) 1 (fdb 1)) 2 (fdb 2)) 3 (fdb 3)) 4 (fdb 4)))), (s0, .inr (4, [.int u1b, .ref s1, .ref s2, .ref s3, .int u2b, .int u3b, .int u4b, .int u5b, .int u6b, .int u7b, .int u8b])), (s1, .inl (cy 1, 4, .inl (flb))), (s2, .inl (cy 0, 3, .inl (fbb))), (s3, .inl (cy 1, 5, .inl (fdb)))]) rfl dX1_copyFrom_73 (fun H locs hP hD hS => ?_)
  refine lv_aload_n hX hB dX1_copyFrom_76 rfl (lv_at hl 0 rfl) ?_
  refine lv_aload_n hX hB dX1_copyFrom_77 rfl (lv_at hl 1 rfl) ?_
  refine fg_X1_42 C hP 4 rfl rfl dX1_copyFrom_78 ?_
  refine fp_X1_42 C hP hD hS 0 rfl rfl rfl (Nat.le_of_ble_eq_true rfl) (w' := [(t0, .inr (4, [.int u1b, .ref t1, .ref t2, .ref t3, .int u2b, .int u3b, .int u4b, .int u5b, .int u6b, .int u7, .int u8])), (t1, .inl (cy 1, 4, .inl (upd (upd (upd (upd fl 0 (flb 0)) 1 (flb 1)) 2 (flb 2)) 3 (flb 3)))), (t2, .inl (cy 0, 3, .inl (va_cpy fbb fb 0 0 3))), (t3, .inl (cy 1, 5, .inl (upd (upd (upd (upd (upd fd 0 (fdb 0)) 1 (fdb 1)) 2 (fdb 2)) 3 (fdb 3)) 4 (fdb 4)))), (s0, .inr (4, [.int u1b, .ref s1, .ref s2, .ref s3, .int u2b, .int u3b, .int u4b, .int u5b, .int u6b, .int u7b, .int u8b])), (s1, .inl (cy 1, 4, .inl (flb))), (s2, .inl (cy 0, 3, .inl (fbb))), (s3, .inl (cy 1, 5, .inl (fdb)))]) rfl dX1_copyFrom_81 (fun H locs hP hD hS => ?_)
  refine lv_aload_n hX hB dX1_copyFrom_84 rfl (lv_at hl 0 rfl) ?_
  refine lv_aload_n hX hB dX1_copyFrom_85 rfl (lv_at hl 1 rfl) ?_
  refine fg_X1_45 C hP 4 rfl rfl dX1_copyFrom_86 ?_
  refine fp_X1_45 C hP hD hS 0 rfl (zb01 hbu7b) (zfitb hbu7b) (Nat.le_of_ble_eq_true rfl) (w' := [(t0, .inr (4, [.int u1b, .ref t1, .ref t2, .ref t3, .int u2b, .int u3b, .int u4b, .int u5b, .int u6b, .int u7b, .int u8])), (t1, .inl (cy 1, 4, .inl (upd (upd (upd (upd fl 0 (flb 0)) 1 (flb 1)) 2 (flb 2)) 3 (flb 3)))), (t2, .inl (cy 0, 3, .inl (va_cpy fbb fb 0 0 3))), (t3, .inl (cy 1, 5, .inl (upd (upd (upd (upd (upd fd 0 (fdb 0)) 1 (fdb 1)) 2 (fdb 2)) 3 (fdb 3)) 4 (fdb 4)))), (s0, .inr (4, [.int u1b, .ref s1, .ref s2, .ref s3, .int u2b, .int u3b, .int u4b, .int u5b, .int u6b, .int u7b, .int u8b])), (s1, .inl (cy 1, 4, .inl (flb))), (s2, .inl (cy 0, 3, .inl (fbb))), (s3, .inl (cy 1, 5, .inl (fdb)))]) rfl dX1_copyFrom_89 (fun H locs hP hD hS => ?_)
  refine lv_aload_n hX hB dX1_copyFrom_92 rfl (lv_at hl 0 rfl) ?_
  refine lv_aload_n hX hB dX1_copyFrom_93 rfl (lv_at hl 1 rfl) ?_
  refine fg_X1_49 C hP 4 rfl rfl dX1_copyFrom_94 ?_
  refine fp_X1_49 C hP hD hS 0 rfl (zb01 hbu8b) (zfitb hbu8b) (Nat.le_of_ble_eq_true rfl) (w' := [(t0, .inr (4, [.int u1b, .ref t1, .ref t2, .ref t3, .int u2b, .int u3b, .int u4b, .int u5b, .int u6b, .int u7b, .int u8b])), (t1, .inl (cy 1, 4, .inl (upd (upd (upd (upd fl 0 (flb 0)) 1 (flb 1)) 2 (flb 2)) 3 (flb 3)))), (t2, .inl (cy 0, 3, .inl (va_cpy fbb fb 0 0 3))), (t3, .inl (cy 1, 5, .inl (upd (upd (upd (upd (upd fd 0 (fdb 0)) 1 (fdb 1)) 2 (fdb 2)) 3 (fdb 3)) 4 (fdb 4)))), (s0, .inr (4, [.int u1b, .ref s1, .ref s2, .ref s3, .int u2b, .int u3b, .int u4b, .int u5b, .int u6b, .int u7b, .int u8b])), (s1, .inl (cy 1, 4, .inl (flb))), (s2, .inl (cy 0, 3, .inl (fbb))), (s3, .inl (cy 1, 5, .inl (fdb)))]) rfl dX1_copyFrom_97 (fun H locs hP hD hS => ?_)
  exact z_vret' (u1b, u2b, u3b, u4b, u5b, u6b, u7b, u8b, upd (upd (upd (upd fl 0 (flb 0)) 1 (flb 1)) 2 (flb 2)) 3 (flb 3), va_cpy fbb fb 0 0 3, upd (upd (upd (upd (upd fd 0 (fdb 0)) 1 (fdb 1)) 2 (fdb 2)) 3 (fdb 3)) 4 (fdb 4)) (w' := q_X1_copyFrom cy t0 t1 t2 t3 s0 s1 s2 s3 u1b u2b u3b u4b u5b u6b u7b u8b flb fbb fdb) (by simp only [n_X1_copyFrom]) C hRT hP hD hS (Nat.le_of_ble_eq_true rfl) (Nat.le_of_ble_eq_true rfl) rfl dX1_copyFrom_100
