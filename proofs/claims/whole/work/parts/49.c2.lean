def q_X4_init (cy : Nat → ClassId) (h0 : Nat) (a : Nat → Nat) : va_W := [(h0, .inr (6, [.ref ((a 0)), .ref ((a 1)), .ref ((a 2)), .int 0])), ((a 0), .inl (cy 0, 5, .inl (fun _ => 0))), ((a 1), .inl (cy 0, 5, .inl (fun _ => 0))), ((a 2), .inl (cy 0, 5, .inl (fun _ => 0)))]
set_option maxHeartbeats 8000000 in
set_option maxRecDepth 100000 in
theorem c_X4_init (l : Launch) {E : zEn} (hE : zEok E) (D : zG) (cy : Nat → ClassId) (h0 : Nat) (sz : Nat) : Met l yX4_init (zws yX4_init cX4_init 1 none) { frames := 1, cells := 3, slots := 15, locals := 12 } (zPre E D cy [.ref h0] [(h0, .inr (6, [.null, .null, .null, .int 0]))] sz) (zQx D (q_X4_init cy h0) (va_A [(h0, .inr (6, [.null, .null, .null, .int 0]))] sz)) 3 15 (va_A [(h0, .inr (6, [.null, .null, .null, .int 0]))] sz) := by
  refine z_of (Qc := fun A => zQx D (q_X4_init cy h0) A) (by decide +kernel) (Nat.le_of_ble_eq_true rfl) rfl ?_
  intro pG eN sT mI below meth cO A ls C hRT hnm hA hP hD hS hE0 hl
  have hX := C.x
  have hB := C.b
  refine lv_aload_n hX hB dX4_init_0 rfl (lv_at hl 0 rfl) ?_
  refine W.objInit hX hB C.o (C.ts _ zm61) (C.ts _ zm12) (C.ts _ zm13) rfl (by rw [C.2.2.1]; exact hl.1) rfl dX4_init_1 (Nat.le_of_ble_eq_true rfl) (Nat.le_of_ble_eq_true rfl) ?_
  refine W.eq (g2 := F0 mI 4 ls []) rfl ?_
  refine lv_aload_n hX hB dX4_init_4 rfl (lv_at hl 0 rfl) ?_
  refine lv_iconst (v := 5) hX hB dX4_init_5 (by decide) ?_
  refine z_newI C hP hD hS hA 5 (by decide) (by decide) (by decide) ⟨Nat.le_of_ble_eq_true rfl, Nat.le_of_ble_eq_true rfl⟩ dX4_init_6 (fun q_1 H hP hD hS => ?_)
  refine fpF_X4_9 C hnm hP hD hS 0 rfl rfl rfl (Nat.le_of_ble_eq_true rfl) (w' := [(h0, .inr (6, [.ref q_1, .null, .null, .int 0])), (q_1, .inl (cy 0, 5, .inl (fun _ => 0)))]) rfl dX4_init_8 (fun H locs hP hD hS => ?_)
  refine lv_aload_n hX hB dX4_init_11 rfl (lv_at hl 0 rfl) ?_
  refine lv_iconst (v := 5) hX hB dX4_init_12 (by decide) ?_
  refine z_newI C hP hD hS hA 5 (by decide) (by decide) (by decide) ⟨Nat.le_of_ble_eq_true rfl, Nat.le_of_ble_eq_true rfl⟩ dX4_init_13 (fun q_2 H hP hD hS => ?_)
  refine fpF_X4_15 C hnm hP hD hS 0 rfl rfl rfl (Nat.le_of_ble_eq_true rfl) (w' := [(h0, .inr (6, [.ref q_1, .ref q_2, .null, .int 0])), (q_1, .inl (cy 0, 5, .inl (fun _ => 0))), (q_2, .inl (cy 0, 5, .inl (fun _ => 0)))]) rfl dX4_init_15 (fun H locs hP hD hS => ?_)
  refine lv_aload_n hX hB dX4_init_18 rfl (lv_at hl 0 rfl) ?_
  refine lv_iconst (v := 5) hX hB dX4_init_19 (by decide) ?_
  refine z_newI C hP hD hS hA 5 (by decide) (by decide) (by decide) ⟨Nat.le_of_ble_eq_true rfl, Nat.le_of_ble_eq_true rfl⟩ dX4_init_20 (fun q_3 H hP hD hS => ?_)
  refine fpF_X4_18 C hnm hP hD hS 0 rfl rfl rfl (Nat.le_of_ble_eq_true rfl) (w' := [(h0, .inr (6, [.ref q_1, .ref q_2, .ref q_3, .int 0])), (q_1, .inl (cy 0, 5, .inl (fun _ => 0))), (q_2, .inl (cy 0, 5, .inl (fun _ => 0))), (q_3, .inl (cy 0, 5, .inl (fun _ => 0)))]) rfl dX4_init_22 (fun H locs hP hD hS => ?_)
  exact z_vretx (zfa [q_1, q_2, q_3]) (w' := q_X4_init cy h0) C hRT hP hD hS (Nat.le_of_ble_eq_true rfl) (Nat.le_of_ble_eq_true rfl) rfl dX4_init_25

def q_X7_init (cy : Nat → ClassId) (h0 : Nat) (a : Nat → Nat) : va_W := [(h0, .inr (9, [.ref ((a 0)), .int 0, .int 0, .int 0])), ((a 0), .inl (cy 0, 4, .inl (fun _ => 0)))]
set_option maxHeartbeats 8000000 in
set_option maxRecDepth 100000 in
theorem c_X7_init (l : Launch) {E : zEn} (hE : zEok E) (D : zG) (cy : Nat → ClassId) (h0 : Nat) (sz : Nat) : Met l yX7_init (zws yX7_init cX7_init 1 none) { frames := 1, cells := 1, slots := 4, locals := 12 } (zPre E D cy [.ref h0] [(h0, .inr (9, [.null, .int 0, .int 0, .int 0]))] sz) (zQx D (q_X7_init cy h0) (va_A [(h0, .inr (9, [.null, .int 0, .int 0, .int 0]))] sz)) 1 4 (va_A [(h0, .inr (9, [.null, .int 0, .int 0, .int 0]))] sz) := by
  refine z_of (Qc := fun A => zQx D (q_X7_init cy h0) A) (by decide +kernel) (Nat.le_of_ble_eq_true rfl) rfl ?_
  intro pG eN sT mI below meth cO A ls C hRT hnm hA hP hD hS hE0 hl
  have hX := C.x
  have hB := C.b
  refine lv_aload_n hX hB dX7_init_0 rfl (lv_at hl 0 rfl) ?_
  refine W.objInit hX hB C.o (C.ts _ zm67) (C.ts _ zm12) (C.ts _ zm13) rfl (by rw [C.2.2.1]; exact hl.1) rfl dX7_init_1 (Nat.le_of_ble_eq_true rfl) (Nat.le_of_ble_eq_true rfl) ?_
  refine W.eq (g2 := F0 mI 4 ls []) rfl ?_
  refine lv_aload_n hX hB dX7_init_4 rfl (lv_at hl 0 rfl) ?_
  refine lv_iconst (v := 4) hX hB dX7_init_5 (by decide) ?_
  refine z_newI C hP hD hS hA 4 (by decide) (by decide) (by decide) ⟨Nat.le_of_ble_eq_true rfl, Nat.le_of_ble_eq_true rfl⟩ dX7_init_6 (fun q_1 H hP hD hS => ?_)
  refine fpF_X7_9 C hnm hP hD hS 0 rfl rfl rfl (Nat.le_of_ble_eq_true rfl) (w' := [(h0, .inr (9, [.ref q_1, .int 0, .int 0, .int 0])), (q_1, .inl (cy 0, 4, .inl (fun _ => 0)))]) rfl dX7_init_8 (fun H locs hP hD hS => ?_)
  exact z_vretx (zfa [q_1]) (w' := q_X7_init cy h0) C hRT hP hD hS (Nat.le_of_ble_eq_true rfl) (Nat.le_of_ble_eq_true rfl) rfl dX7_init_11

def n_X4_copyFrom (fr0 : Nat → Int32) (fr1 : Nat → Int32) (fr2 : Nat → Int32) (r1b : Int32) (fr0b : Nat → Int32) (fr1b : Nat → Int32) (fr2b : Nat → Int32) : Int32 × (Nat → Int32) × (Nat → Int32) × (Nat → Int32) :=
  (r1b, va_cpy fr0b fr0 0 0 5, va_cpy fr1b fr1 0 0 5, va_cpy fr2b fr2 0 0 5)
def q_X4_copyFrom (cy : Nat → ClassId) (t0 : Nat) (t1 : Nat) (t2 : Nat) (t3 : Nat) (s0 : Nat) (s1 : Nat) (s2 : Nat) (s3 : Nat) (r1b : Int32) (fr0b : Nat → Int32) (fr1b : Nat → Int32) (fr2b : Nat → Int32) (o : Int32 × (Nat → Int32) × (Nat → Int32) × (Nat → Int32)) : va_W := [(t0, .inr (6, [.ref t1, .ref t2, .ref t3, .int o.1])), (t1, .inl (cy 0, 5, .inl (o.2.1))), (t2, .inl (cy 0, 5, .inl (o.2.2.1))), (t3, .inl (cy 0, 5, .inl (o.2.2.2))), (s0, .inr (6, [.ref s1, .ref s2, .ref s3, .int r1b])), (s1, .inl (cy 0, 5, .inl (fr0b))), (s2, .inl (cy 0, 5, .inl (fr1b))), (s3, .inl (cy 0, 5, .inl (fr2b)))]
set_option maxHeartbeats 4000000 in
set_option maxRecDepth 100000 in
theorem c_X4_copyFrom (l : Launch) {E : zEn} (hE : zEok E) (D : zG) (cy : Nat → ClassId) (t0 t1 t2 t3 s0 s1 s2 s3 : Nat) (r1 : Int32) (fr0 : Nat → Int32) (fr1 : Nat → Int32) (fr2 : Nat → Int32) (r1b : Int32) (fr0b : Nat → Int32) (fr1b : Nat → Int32) (fr2b : Nat → Int32)  (sz : Nat) : Met l yX4_copyFrom (zws yX4_copyFrom cX4_copyFrom 2 none) { frames := 1, cells := 0, slots := 0, locals := 30 } (zPre E D cy [.ref t0, .ref s0] [(t0, .inr (6, [.ref t1, .ref t2, .ref t3, .int r1])), (t1, .inl (cy 0, 5, .inl (fr0))), (t2, .inl (cy 0, 5, .inl (fr1))), (t3, .inl (cy 0, 5, .inl (fr2))), (s0, .inr (6, [.ref s1, .ref s2, .ref s3, .int r1b])), (s1, .inl (cy 0, 5, .inl (fr0b))), (s2, .inl (cy 0, 5, .inl (fr1b))), (s3, .inl (cy 0, 5, .inl (fr2b)))] sz) (zQv D ((q_X4_copyFrom cy t0 t1 t2 t3 s0 s1 s2 s3 r1b fr0b fr1b fr2b) (n_X4_copyFrom fr0 fr1 fr2 r1b fr0b fr1b fr2b)) (va_A [(t0, .inr (6, [.ref t1, .ref t2, .ref t3, .int r1])), (t1, .inl (cy 0, 5, .inl (fr0))), (t2, .inl (cy 0, 5, .inl (fr1))), (t3, .inl (cy 0, 5, .inl (fr2))), (s0, .inr (6, [.ref s1, .ref s2, .ref s3, .int r1b])), (s1, .inl (cy 0, 5, .inl (fr0b))), (s2, .inl (cy 0, 5, .inl (fr1b))), (s3, .inl (cy 0, 5, .inl (fr2b)))] sz)) 0 0 (va_A [(t0, .inr (6, [.ref t1, .ref t2, .ref t3, .int r1])), (t1, .inl (cy 0, 5, .inl (fr0))), (t2, .inl (cy 0, 5, .inl (fr1))), (t3, .inl (cy 0, 5, .inl (fr2))), (s0, .inr (6, [.ref s1, .ref s2, .ref s3, .int r1b])), (s1, .inl (cy 0, 5, .inl (fr0b))), (s2, .inl (cy 0, 5, .inl (fr1b))), (s3, .inl (cy 0, 5, .inl (fr2b)))] sz) := by
  refine z_of (Qc := fun A => zQv D ((q_X4_copyFrom cy t0 t1 t2 t3 s0 s1 s2 s3 r1b fr0b fr1b fr2b) (n_X4_copyFrom fr0 fr1 fr2 r1b fr0b fr1b fr2b)) A) (by decide +kernel) (Nat.le_of_ble_eq_true rfl) rfl ?_
  intro pG eN sT mI below meth cO A ls C hRT hnm hA hP hD hS hE0 hl
  have hX := C.x
  have hB := C.b
  refine lv_aload_n hX hB dX4_copyFrom_0 rfl (lv_at hl 1 rfl) ?_
  refine fg_X4_9 C hP 4 rfl rfl dX4_copyFrom_1 ?_
  refine lv_iconst (v := 0) hX hB dX4_copyFrom_4 (by decide) ?_
  refine lv_aload_n hX hB dX4_copyFrom_5 rfl (lv_at hl 0 rfl) ?_
  refine fg_X4_9 C hP 0 rfl rfl dX4_copyFrom_6 ?_
  refine lv_iconst (v := 0) hX hB dX4_copyFrom_9 (by decide) ?_
  refine lv_iconst (v := 5) hX hB dX4_copyFrom_10 (by decide) ?_
  refine z_copy C hl.1 zm182 hP hD hS 5 1 rfl rfl 5 (by decide) (by decide) (by decide) (by decide) ⟨Nat.le_of_ble_eq_true rfl, Nat.le_of_ble_eq_true rfl⟩ (w' := [(t0, .inr (6, [.ref t1, .ref t2, .ref t3, .int r1])), (t1, .inl (cy 0, 5, .inl (va_cpy fr0b fr0 0 0 5))), (t2, .inl (cy 0, 5, .inl (fr1))), (t3, .inl (cy 0, 5, .inl (fr2))), (s0, .inr (6, [.ref s1, .ref s2, .ref s3, .int r1b])), (s1, .inl (cy 0, 5, .inl (fr0b))), (s2, .inl (cy 0, 5, .inl (fr1b))), (s3, .inl (cy 0, 5, .inl (fr2b)))]) rfl dX4_copyFrom_11 (fun H locs hP hD hS => ?_)
  refine lv_aload_n hX hB dX4_copyFrom_14 rfl (lv_at hl 1 rfl) ?_
  refine fg_X4_15 C hP 4 rfl rfl dX4_copyFrom_15 ?_
  refine lv_iconst (v := 0) hX hB dX4_copyFrom_18 (by decide) ?_
  refine lv_aload_n hX hB dX4_copyFrom_19 rfl (lv_at hl 0 rfl) ?_
  refine fg_X4_15 C hP 0 rfl rfl dX4_copyFrom_20 ?_
  refine lv_iconst (v := 0) hX hB dX4_copyFrom_23 (by decide) ?_
  refine lv_iconst (v := 5) hX hB dX4_copyFrom_24 (by decide) ?_
  refine z_copy C hl.1 zm182 hP hD hS 6 2 rfl rfl 5 (by decide) (by decide) (by decide) (by decide) ⟨Nat.le_of_ble_eq_true rfl, Nat.le_of_ble_eq_true rfl⟩ (w' := [(t0, .inr (6, [.ref t1, .ref t2, .ref t3, .int r1])), (t1, .inl (cy 0, 5, .inl (va_cpy fr0b fr0 0 0 5))), (t2, .inl (cy 0, 5, .inl (va_cpy fr1b fr1 0 0 5))), (t3, .inl (cy 0, 5, .inl (fr2))), (s0, .inr (6, [.ref s1, .ref s2, .ref s3, .int r1b])), (s1, .inl (cy 0, 5, .inl (fr0b))), (s2, .inl (cy 0, 5, .inl (fr1b))), (s3, .inl (cy 0, 5, .inl (fr2b)))]) rfl dX4_copyFrom_25 (fun H locs hP hD hS => ?_)
  refine lv_aload_n hX hB dX4_copyFrom_28 rfl (lv_at hl 1 rfl) ?_
  refine fg_X4_18 C hP 4 rfl rfl dX4_copyFrom_29 ?_
  refine lv_iconst (v := 0) hX hB dX4_copyFrom_32 (by decide) ?_
  refine lv_aload_n hX hB dX4_copyFrom_33 rfl (lv_at hl 0 rfl) ?_
  refine fg_X4_18 C hP 0 rfl rfl dX4_copyFrom_34 ?_
  refine lv_iconst (v := 0) hX hB dX4_copyFrom_37 (by decide) ?_
  refine lv_iconst (v := 5) hX hB dX4_copyFrom_38 (by decide) ?_
  refine z_copy C hl.1 zm182 hP hD hS 7 3 rfl rfl 5 (by decide) (by decide) (by decide) (by decide) ⟨Nat.le_of_ble_eq_true rfl, Nat.le_of_ble_eq_true rfl⟩ (w' := [(t0, .inr (6, [.ref t1, .ref t2, .ref t3, .int r1])), (t1, .inl (cy 0, 5, .inl (va_cpy fr0b fr0 0 0 5))), (t2, .inl (cy 0, 5, .inl (va_cpy fr1b fr1 0 0 5))), (t3, .inl (cy 0, 5, .inl (va_cpy fr2b fr2 0 0 5))), (s0, .inr (6, [.ref s1, .ref s2, .ref s3, .int r1b])), (s1, .inl (cy 0, 5, .inl (fr0b))), (s2, .inl (cy 0, 5, .inl (fr1b))), (s3, .inl (cy 0, 5, .inl (fr2b)))]) rfl dX4_copyFrom_39 (fun H locs hP hD hS => ?_)
  refine lv_aload_n hX hB dX4_copyFrom_42 rfl (lv_at hl 0 rfl) ?_
  refine lv_aload_n hX hB dX4_copyFrom_43 rfl (lv_at hl 1 rfl) ?_
  refine fg_X4_27 C hP 4 rfl rfl dX4_copyFrom_44 ?_
  refine fp_X4_27 C hP hD hS 0 rfl rfl rfl (Nat.le_of_ble_eq_true rfl) (w' := [(t0, .inr (6, [.ref t1, .ref t2, .ref t3, .int r1b])), (t1, .inl (cy 0, 5, .inl (va_cpy fr0b fr0 0 0 5))), (t2, .inl (cy 0, 5, .inl (va_cpy fr1b fr1 0 0 5))), (t3, .inl (cy 0, 5, .inl (va_cpy fr2b fr2 0 0 5))), (s0, .inr (6, [.ref s1, .ref s2, .ref s3, .int r1b])), (s1, .inl (cy 0, 5, .inl (fr0b))), (s2, .inl (cy 0, 5, .inl (fr1b))), (s3, .inl (cy 0, 5, .inl (fr2b)))]) rfl dX4_copyFrom_47 (fun H locs hP hD hS => ?_)
  exact z_vret' (r1b, va_cpy fr0b fr0 0 0 5, va_cpy fr1b fr1 0 0 5, va_cpy fr2b fr2 0 0 5) (w' := q_X4_copyFrom cy t0 t1 t2 t3 s0 s1 s2 s3 r1b fr0b fr1b fr2b) (by simp only [n_X4_copyFrom]) C hRT hP hD hS (Nat.le_of_ble_eq_true rfl) (Nat.le_of_ble_eq_true rfl) rfl dX4_copyFrom_50

def n_X4_enter_L3 (r1 : Int32) (x : Int32) (y : Int32) (z : Int32) (p : Nat) : Nat → (Nat → Int32) → (Nat → Int32) → (Nat → Int32) → Nat → Int32 × (Nat → Int32) × (Nat → Int32) × (Nat → Int32)
  | 0, f_14, f_15, f_16, _ => ((if 5 < (nI ((zn r1) + 1)) then 5 else nI ((zn r1) + 1)), f_14, f_15, f_16)
  | n_13 + 1, f_14, f_15, f_16, k =>
    if nI k ≤ nI p then
      ((if 5 < (nI ((zn r1) + 1)) then 5 else nI ((zn r1) + 1)), upd f_14 p x, upd f_15 p y, upd f_16 p z)
    else
      n_X4_enter_L3 r1 x y z p n_13 (upd f_14 k (f_14 (k - 1))) (upd f_15 k (f_15 (k - 1))) (upd f_16 k (f_16 (k - 1))) (k - 1)
def n_X4_enter_L1 (r1 : Int32) (fr0 : Nat → Int32) (fr1 : Nat → Int32) (fr2 : Nat → Int32) (x : Int32) (y : Int32) (z : Int32) : Nat → Nat → Int32 × (Nat → Int32) × (Nat → Int32) × (Nat → Int32)
  | 0, _ => (r1, fr0, fr1, fr2)
  | n_1 + 1, p =>
    if nI p ≤ 0 then
      if nI p < 5 then
        n_X4_enter_L3 r1 x y z p 5 fr0 fr1 fr2 ((min ((zn r1) + 1) 5) - 1)
      else
        (r1, fr0, fr1, fr2)
    else
      if x ≤ fr0 (p - 1) then
        if nI p < 5 then
          n_X4_enter_L3 r1 x y z p 5 fr0 fr1 fr2 ((min ((zn r1) + 1) 5) - 1)
        else
          (r1, fr0, fr1, fr2)
      else
        n_X4_enter_L1 r1 fr0 fr1 fr2 x y z n_1 (p - 1)
def n_X4_enter (r1 : Int32) (fr0 : Nat → Int32) (fr1 : Nat → Int32) (fr2 : Nat → Int32) (x : Int32) (y : Int32) (z : Int32) : Int32 × (Nat → Int32) × (Nat → Int32) × (Nat → Int32) :=
  n_X4_enter_L1 r1 fr0 fr1 fr2 x y z 6 (zn r1)
def q_X4_enter (cy : Nat → ClassId) (t0 : Nat) (t1 : Nat) (t2 : Nat) (t3 : Nat)  (o : Int32 × (Nat → Int32) × (Nat → Int32) × (Nat → Int32)) : va_W := [(t0, .inr (6, [.ref t1, .ref t2, .ref t3, .int o.1])), (t1, .inl (cy 0, 5, .inl (o.2.1))), (t2, .inl (cy 0, 5, .inl (o.2.2.1))), (t3, .inl (cy 0, 5, .inl (o.2.2.2)))]
set_option maxHeartbeats 4000000 in
set_option maxRecDepth 100000 in
theorem c_X4_enter (l : Launch) {E : zEn} (hE : zEok E) (D : zG) (cy : Nat → ClassId) (t0 t1 t2 t3 : Nat) (r1 : Int32) (fr0 : Nat → Int32) (fr1 : Nat → Int32) (fr2 : Nat → Int32) (x : Int32) (y : Int32) (z : Int32) (hzr1 : zle r1 5) (sz : Nat) : Met l yX4_enter (zws yX4_enter cX4_enter 6 none) { frames := 1, cells := 0, slots := 0, locals := 14 } (zPre E D cy [.ref t0, .int x, .int y, .int z] [(t0, .inr (6, [.ref t1, .ref t2, .ref t3, .int r1])), (t1, .inl (cy 0, 5, .inl (fr0))), (t2, .inl (cy 0, 5, .inl (fr1))), (t3, .inl (cy 0, 5, .inl (fr2)))] sz) (zQv D ((q_X4_enter cy t0 t1 t2 t3) (n_X4_enter r1 fr0 fr1 fr2 x y z)) (va_A [(t0, .inr (6, [.ref t1, .ref t2, .ref t3, .int r1])), (t1, .inl (cy 0, 5, .inl (fr0))), (t2, .inl (cy 0, 5, .inl (fr1))), (t3, .inl (cy 0, 5, .inl (fr2)))] sz)) 0 0 (va_A [(t0, .inr (6, [.ref t1, .ref t2, .ref t3, .int r1])), (t1, .inl (cy 0, 5, .inl (fr0))), (t2, .inl (cy 0, 5, .inl (fr1))), (t3, .inl (cy 0, 5, .inl (fr2)))] sz) := by
  refine z_of (Qc := fun A => zQv D ((q_X4_enter cy t0 t1 t2 t3) (n_X4_enter r1 fr0 fr1 fr2 x y z)) A) (by decide +kernel) (Nat.le_of_ble_eq_true rfl) rfl ?_
  intro pG eN sT mI below meth cO A ls C hRT hnm hA hP hD hS hE0 hl
  have hX := C.x
  have hB := C.b
  have hzr1_ := hzr1.2
  refine lv_aload_n hX hB dX4_enter_0 rfl (lv_at hl 0 rfl) ?_
  refine fg_X4_27 C hP 0 rfl rfl dX4_enter_1 ?_
  refine lv_istore (lv' := [(4, .int r1), (0, .ref t0), (1, .int x), (2, .int y), (3, .int z)]) hX hB dX4_enter_4 hl (by decide) rfl (fun ls hl => ?_)
  have loop_0 : ∀ (n_1 : Nat) (p : Nat), (p ≤ 5) → p < n_1 → n_X4_enter_L1 r1 fr0 fr1 fr2 x y z n_1 p = n_X4_enter r1 fr0 fr1 fr2 x y z → ∀ (H : Heap) (locs : List Loc), va_P D vwCl [(t0, .inr (6, [.ref t1, .ref t2, .ref t3, .int r1])), (t1, .inl (cy 0, 5, .inl (fr0))), (t2, .inl (cy 0, 5, .inl (fr1))), (t3, .inl (cy 0, 5, .inl (fr2)))] H → va_D A [(t0, .inr (6, [.ref t1, .ref t2, .ref t3, .int r1])), (t1, .inl (cy 0, 5, .inl (fr0))), (t2, .inl (cy 0, 5, .inl (fr1))), (t3, .inl (cy 0, 5, .inl (fr2)))] → va_S A sT.heap H locs → ∀ (ls : Array Slot), lv_has ls 6 [(4, .int (nI p)), (0, .ref t0), (1, .int x), (2, .int y), (3, .int z)] → W pG l eN { frames := 1, cells := 0, slots := 0, locals := 14 } sT mI ([.ref t0, .int x, .int y, .int z] : List Value).toArray below meth cO H locs 0 0 (MQ below (zQv D ((q_X4_enter cy t0 t1 t2 t3) (n_X4_enter r1 fr0 fr1 fr2 x y z)) A) ([.ref t0, .int x, .int y, .int z] : List Value).toArray sT 0 0 A) (F0 mI 6 ls []) := by
    intro n_1
    induction n_1 with
    | zero =>
      intro p hb_0_0 hm_0
      exact absurd hm_0 (by omega)
    | succ n_1 ih_2 =>
      intro p hb_0_0 hm_0 hF_0 H locs hP hD hS ls hl
      refine lv_iload hX hB dX4_enter_6 (lv_at hl 0 rfl) ?_
      refine lv_if_le (tgt := 30) hX hB dX4_enter_8 (by decide) (fun c_3 => ?_) (fun c_3 => ?_)
      · have c_3n : p ≤ 0 := (zi_le_iff (zi_i p) (zlit 0) (by omega) (by decide)).mp c_3
        refine lv_iload hX hB dX4_enter_30 (lv_at hl 0 rfl) ?_
        refine lv_iconst (v := 5) hX hB dX4_enter_32 (by decide) ?_
        refine lv_icmp_lt (tgt := 37) hX hB dX4_enter_33 (by decide) (fun c_4 => ?_) (fun c_4 => ?_)
        · have c_4n : p < 5 := (zi_lt_iff (zi_i p) (zlit 5) (by omega) (by decide)).mp c_4
          refine lv_aload_n hX hB dX4_enter_37 rfl (lv_at hl 1 rfl) ?_
          refine lv_aload_n hX hB dX4_enter_38 rfl (lv_at hl 1 rfl) ?_
          refine fg_X4_27 C hP 0 rfl rfl dX4_enter_39 ?_
          refine lv_iconst (v := 1) hX hB dX4_enter_42 (by decide) ?_
          refine z_iadd (v := nI ((zn r1) + 1)) C dX4_enter_43 (zi_add hzr1.1 (zlit 1)) ?_
          refine lv_iconst (v := 5) hX hB dX4_enter_44 (by decide) ?_
          refine va_mmin hX hB (C.2.2.1.trans hl.1.symm) C.o (C.ts _ zm485) (C.ts _ zm198) (C.ts _ zm199) (C.ts _ zm200) (Nat.le_of_ble_eq_true rfl) (Nat.le_of_ble_eq_true rfl) (Nat.le_of_ble_eq_true rfl) (Nat.le_of_ble_eq_true rfl) dX4_enter_45 ?_
          refine fp_X4_27 C hP hD hS 0 rfl rfl rfl (Nat.le_of_ble_eq_true rfl) (w' := [(t0, .inr (6, [.ref t1, .ref t2, .ref t3, .int (if 5 < (nI ((zn r1) + 1)) then 5 else nI ((zn r1) + 1))])), (t1, .inl (cy 0, 5, .inl (fr0))), (t2, .inl (cy 0, 5, .inl (fr1))), (t3, .inl (cy 0, 5, .inl (fr2)))]) rfl dX4_enter_48 (fun H locs hP hD hS => ?_)
          refine lv_aload_n hX hB dX4_enter_51 rfl (lv_at hl 1 rfl) ?_
          refine fg_X4_27 C hP 0 rfl rfl dX4_enter_52 ?_
          refine lv_iconst (v := 1) hX hB dX4_enter_55 (by decide) ?_
          refine z_isub (v := nI ((min ((zn r1) + 1) 5) - 1)) C dX4_enter_56 (zi_sub (zi_min (zi_i ((zn r1) + 1)) (zlit 5) (by omega) (by decide)) (zlit 1) (by omega)) ?_
          refine lv_istore (lv' := [(5, .int (nI ((min ((zn r1) + 1) 5) - 1))), (4, .int (nI p)), (0, .ref t0), (1, .int x), (2, .int y), (3, .int z)]) hX hB dX4_enter_57 hl (by decide) rfl (fun ls hl => ?_)
          have loop_1 : ∀ (n_5 : Nat) (f_6 : Nat → Int32) (f_7 : Nat → Int32) (f_8 : Nat → Int32) (k : Nat), (k ≤ 4) → k < n_5 → n_X4_enter_L3 r1 x y z p n_5 f_6 f_7 f_8 k = n_X4_enter r1 fr0 fr1 fr2 x y z → ∀ (H : Heap) (locs : List Loc), va_P D vwCl [(t0, .inr (6, [.ref t1, .ref t2, .ref t3, .int (if 5 < (nI ((zn r1) + 1)) then 5 else nI ((zn r1) + 1))])), (t1, .inl (cy 0, 5, .inl (f_6))), (t2, .inl (cy 0, 5, .inl (f_7))), (t3, .inl (cy 0, 5, .inl (f_8)))] H → va_D A [(t0, .inr (6, [.ref t1, .ref t2, .ref t3, .int (if 5 < (nI ((zn r1) + 1)) then 5 else nI ((zn r1) + 1))])), (t1, .inl (cy 0, 5, .inl (f_6))), (t2, .inl (cy 0, 5, .inl (f_7))), (t3, .inl (cy 0, 5, .inl (f_8)))] → va_S A sT.heap H locs → ∀ (ls : Array Slot), lv_has ls 6 [(5, .int (nI k)), (4, .int (nI p)), (0, .ref t0), (1, .int x), (2, .int y), (3, .int z)] → W pG l eN { frames := 1, cells := 0, slots := 0, locals := 14 } sT mI ([.ref t0, .int x, .int y, .int z] : List Value).toArray below meth cO H locs 0 0 (MQ below (zQv D ((q_X4_enter cy t0 t1 t2 t3) (n_X4_enter r1 fr0 fr1 fr2 x y z)) A) ([.ref t0, .int x, .int y, .int z] : List Value).toArray sT 0 0 A) (F0 mI 59 ls []) := by
            intro n_5
            induction n_5 with
            | zero =>
              intro f_6 f_7 f_8 k hb_1_0 hm_1
              exact absurd hm_1 (by omega)
            | succ n_5 ih_9 =>
              intro f_6 f_7 f_8 k hb_1_0 hm_1 hF_1 H locs hP hD hS ls hl
              refine lv_iload hX hB dX4_enter_59 (lv_at hl 0 rfl) ?_
              refine lv_iload hX hB dX4_enter_61 (lv_at hl 1 rfl) ?_
              refine lv_icmp_le (tgt := 120) hX hB dX4_enter_63 (by decide) (fun c_10 => ?_) (fun c_10 => ?_)
              · have c_10n : k ≤ p := (zi_le_iff (zi_i k) (zi_i p) (by omega) (by omega)).mp c_10
                refine lv_aload_n hX hB dX4_enter_120 rfl (lv_at hl 2 rfl) ?_
                refine fg_X4_9 C hP 0 rfl rfl dX4_enter_121 ?_
                refine lv_iload hX hB dX4_enter_124 (lv_at hl 1 rfl) ?_
                refine lv_iload_n hX hB dX4_enter_126 rfl (lv_at hl 3 rfl) ?_
                refine z_iast C hP hD hS 1 rfl (k := p) (zi_i p) (by omega) (by decide) (w' := [(t0, .inr (6, [.ref t1, .ref t2, .ref t3, .int (if 5 < (nI ((zn r1) + 1)) then 5 else nI ((zn r1) + 1))])), (t1, .inl (cy 0, 5, .inl (upd f_6 p x))), (t2, .inl (cy 0, 5, .inl (f_7))), (t3, .inl (cy 0, 5, .inl (f_8)))]) rfl dX4_enter_127 (fun H locs hP hD hS => ?_)
                refine lv_aload_n hX hB dX4_enter_128 rfl (lv_at hl 2 rfl) ?_
                refine fg_X4_15 C hP 0 rfl rfl dX4_enter_129 ?_
                refine lv_iload hX hB dX4_enter_132 (lv_at hl 1 rfl) ?_
                refine lv_iload_n hX hB dX4_enter_134 rfl (lv_at hl 4 rfl) ?_
                refine z_iast C hP hD hS 2 rfl (k := p) (zi_i p) (by omega) (by decide) (w' := [(t0, .inr (6, [.ref t1, .ref t2, .ref t3, .int (if 5 < (nI ((zn r1) + 1)) then 5 else nI ((zn r1) + 1))])), (t1, .inl (cy 0, 5, .inl (upd f_6 p x))), (t2, .inl (cy 0, 5, .inl (upd f_7 p y))), (t3, .inl (cy 0, 5, .inl (f_8)))]) rfl dX4_enter_135 (fun H locs hP hD hS => ?_)
                refine lv_aload_n hX hB dX4_enter_136 rfl (lv_at hl 2 rfl) ?_
                refine fg_X4_18 C hP 0 rfl rfl dX4_enter_137 ?_
                refine lv_iload hX hB dX4_enter_140 (lv_at hl 1 rfl) ?_
                refine lv_iload_n hX hB dX4_enter_142 rfl (lv_at hl 5 rfl) ?_
                refine z_iast C hP hD hS 3 rfl (k := p) (zi_i p) (by omega) (by decide) (w' := [(t0, .inr (6, [.ref t1, .ref t2, .ref t3, .int (if 5 < (nI ((zn r1) + 1)) then 5 else nI ((zn r1) + 1))])), (t1, .inl (cy 0, 5, .inl (upd f_6 p x))), (t2, .inl (cy 0, 5, .inl (upd f_7 p y))), (t3, .inl (cy 0, 5, .inl (upd f_8 p z)))]) rfl dX4_enter_143 (fun H locs hP hD hS => ?_)
                exact z_vret' ((if 5 < (nI ((zn r1) + 1)) then 5 else nI ((zn r1) + 1)), upd f_6 p x, upd f_7 p y, upd f_8 p z) (w' := q_X4_enter cy t0 t1 t2 t3) (hF_1.symm.trans (by simp only [n_X4_enter_L3, if_pos c_10])) C hRT hP hD hS (Nat.le_of_ble_eq_true rfl) (Nat.le_of_ble_eq_true rfl) rfl dX4_enter_144
              · have c_10n : ¬ (k ≤ p) := fun z => c_10 ((zi_le_iff (zi_i k) (zi_i p) (by omega) (by omega)).mpr z)
                refine lv_aload_n hX hB dX4_enter_66 rfl (lv_at hl 2 rfl) ?_
                refine fg_X4_9 C hP 0 rfl rfl dX4_enter_67 ?_
                refine lv_iload hX hB dX4_enter_70 (lv_at hl 0 rfl) ?_
                refine lv_aload_n hX hB dX4_enter_72 rfl (lv_at hl 2 rfl) ?_
                refine fg_X4_9 C hP 0 rfl rfl dX4_enter_73 ?_
                refine lv_iload hX hB dX4_enter_76 (lv_at hl 0 rfl) ?_
                refine lv_iconst (v := 1) hX hB dX4_enter_78 (by decide) ?_
                refine z_isub (v := nI (k - 1)) C dX4_enter_79 (zi_sub (zi_i k) (zlit 1) (by omega)) ?_
                refine z_iald C hP 1 rfl (k := k - 1) (zi_i (k - 1)) (by omega) (by decide) (v := f_6 (k - 1)) rfl dX4_enter_80 ?_
                refine z_iast C hP hD hS 1 rfl (k := k) (zi_i k) (by omega) (by decide) (w' := [(t0, .inr (6, [.ref t1, .ref t2, .ref t3, .int (if 5 < (nI ((zn r1) + 1)) then 5 else nI ((zn r1) + 1))])), (t1, .inl (cy 0, 5, .inl (upd f_6 k (f_6 (k - 1))))), (t2, .inl (cy 0, 5, .inl (f_7))), (t3, .inl (cy 0, 5, .inl (f_8)))]) rfl dX4_enter_81 (fun H locs hP hD hS => ?_)
                refine lv_aload_n hX hB dX4_enter_82 rfl (lv_at hl 2 rfl) ?_
                refine fg_X4_15 C hP 0 rfl rfl dX4_enter_83 ?_
                refine lv_iload hX hB dX4_enter_86 (lv_at hl 0 rfl) ?_
                refine lv_aload_n hX hB dX4_enter_88 rfl (lv_at hl 2 rfl) ?_
                refine fg_X4_15 C hP 0 rfl rfl dX4_enter_89 ?_
                refine lv_iload hX hB dX4_enter_92 (lv_at hl 0 rfl) ?_
                refine lv_iconst (v := 1) hX hB dX4_enter_94 (by decide) ?_
                refine z_isub (v := nI (k - 1)) C dX4_enter_95 (zi_sub (zi_i k) (zlit 1) (by omega)) ?_
                refine z_iald C hP 2 rfl (k := k - 1) (zi_i (k - 1)) (by omega) (by decide) (v := f_7 (k - 1)) rfl dX4_enter_96 ?_
                refine z_iast C hP hD hS 2 rfl (k := k) (zi_i k) (by omega) (by decide) (w' := [(t0, .inr (6, [.ref t1, .ref t2, .ref t3, .int (if 5 < (nI ((zn r1) + 1)) then 5 else nI ((zn r1) + 1))])), (t1, .inl (cy 0, 5, .inl (upd f_6 k (f_6 (k - 1))))), (t2, .inl (cy 0, 5, .inl (upd f_7 k (f_7 (k - 1))))), (t3, .inl (cy 0, 5, .inl (f_8)))]) rfl dX4_enter_97 (fun H locs hP hD hS => ?_)
                refine lv_aload_n hX hB dX4_enter_98 rfl (lv_at hl 2 rfl) ?_
                refine fg_X4_18 C hP 0 rfl rfl dX4_enter_99 ?_
                refine lv_iload hX hB dX4_enter_102 (lv_at hl 0 rfl) ?_
                refine lv_aload_n hX hB dX4_enter_104 rfl (lv_at hl 2 rfl) ?_
                refine fg_X4_18 C hP 0 rfl rfl dX4_enter_105 ?_
                refine lv_iload hX hB dX4_enter_108 (lv_at hl 0 rfl) ?_
                refine lv_iconst (v := 1) hX hB dX4_enter_110 (by decide) ?_
                refine z_isub (v := nI (k - 1)) C dX4_enter_111 (zi_sub (zi_i k) (zlit 1) (by omega)) ?_
                refine z_iald C hP 3 rfl (k := k - 1) (zi_i (k - 1)) (by omega) (by decide) (v := f_8 (k - 1)) rfl dX4_enter_112 ?_
                refine z_iast C hP hD hS 3 rfl (k := k) (zi_i k) (by omega) (by decide) (w' := [(t0, .inr (6, [.ref t1, .ref t2, .ref t3, .int (if 5 < (nI ((zn r1) + 1)) then 5 else nI ((zn r1) + 1))])), (t1, .inl (cy 0, 5, .inl (upd f_6 k (f_6 (k - 1))))), (t2, .inl (cy 0, 5, .inl (upd f_7 k (f_7 (k - 1))))), (t3, .inl (cy 0, 5, .inl (upd f_8 k (f_8 (k - 1)))))]) rfl dX4_enter_113 (fun H locs hP hD hS => ?_)
                refine lv_iinc (v := nI (k - 1)) (lv' := [(5, .int (nI (k - 1))), (4, .int (nI p)), (0, .ref t0), (1, .int x), (2, .int y), (3, .int z)]) hX hB dX4_enter_114 hl (k := 0) rfl (zi_dec2 (zi_i k) (by omega)) (by decide) rfl (fun ls hl => ?_)
                refine lv_goto (tgt := 59) hX hB dX4_enter_117 (by decide) ?_
                exact ih_9 (upd f_6 k (f_6 (k - 1))) (upd f_7 k (f_7 (k - 1))) (upd f_8 k (f_8 (k - 1))) (k - 1) (by omega)  (by omega) (Eq.trans (by simp only [n_X4_enter_L3, if_neg c_10]) hF_1) _ _ hP hD hS ls (lv_sub hl [0, 1, 2, 3, 4, 5] rfl)
          exact loop_1 5 fr0 fr1 fr2 ((min ((zn r1) + 1) 5) - 1) (by omega)  (by omega) (Eq.trans (by simp only [n_X4_enter_L1, if_pos c_3, if_pos c_4]) hF_0) _ _ hP hD hS ls hl
        · have c_4n : ¬ (p < 5) := fun z => c_4 ((zi_lt_iff (zi_i p) (zlit 5) (by omega) (by decide)).mpr z)
          exact z_vret' (r1, fr0, fr1, fr2) (w' := q_X4_enter cy t0 t1 t2 t3) (hF_0.symm.trans (by simp only [n_X4_enter_L1, if_pos c_3, if_neg c_4])) C hRT hP hD hS (Nat.le_of_ble_eq_true rfl) (Nat.le_of_ble_eq_true rfl) rfl dX4_enter_36
      · have c_3n : ¬ (p ≤ 0) := fun z => c_3 ((zi_le_iff (zi_i p) (zlit 0) (by omega) (by decide)).mpr z)
        refine lv_aload_n hX hB dX4_enter_11 rfl (lv_at hl 1 rfl) ?_
        refine fg_X4_9 C hP 0 rfl rfl dX4_enter_12 ?_
        refine lv_iload hX hB dX4_enter_15 (lv_at hl 0 rfl) ?_
        refine lv_iconst (v := 1) hX hB dX4_enter_17 (by decide) ?_
        refine z_isub (v := nI (p - 1)) C dX4_enter_18 (zi_sub (zi_i p) (zlit 1) (by omega)) ?_
        refine z_iald C hP 1 rfl (k := p - 1) (zi_i (p - 1)) (by omega) (by decide) (v := fr0 (p - 1)) rfl dX4_enter_19 ?_
        refine lv_iload_n hX hB dX4_enter_20 rfl (lv_at hl 2 rfl) ?_
        refine lv_icmp_ge (tgt := 30) hX hB dX4_enter_21 (by decide) (fun c_11 => ?_) (fun c_11 => ?_)
        · refine lv_iload hX hB dX4_enter_30 (lv_at hl 0 rfl) ?_
          refine lv_iconst (v := 5) hX hB dX4_enter_32 (by decide) ?_
          refine lv_icmp_lt (tgt := 37) hX hB dX4_enter_33 (by decide) (fun c_12 => ?_) (fun c_12 => ?_)
          · have c_12n : p < 5 := (zi_lt_iff (zi_i p) (zlit 5) (by omega) (by decide)).mp c_12
            refine lv_aload_n hX hB dX4_enter_37 rfl (lv_at hl 1 rfl) ?_
            refine lv_aload_n hX hB dX4_enter_38 rfl (lv_at hl 1 rfl) ?_
            refine fg_X4_27 C hP 0 rfl rfl dX4_enter_39 ?_
            refine lv_iconst (v := 1) hX hB dX4_enter_42 (by decide) ?_
            refine z_iadd (v := nI ((zn r1) + 1)) C dX4_enter_43 (zi_add hzr1.1 (zlit 1)) ?_
            refine lv_iconst (v := 5) hX hB dX4_enter_44 (by decide) ?_
            refine va_mmin hX hB (C.2.2.1.trans hl.1.symm) C.o (C.ts _ zm485) (C.ts _ zm198) (C.ts _ zm199) (C.ts _ zm200) (Nat.le_of_ble_eq_true rfl) (Nat.le_of_ble_eq_true rfl) (Nat.le_of_ble_eq_true rfl) (Nat.le_of_ble_eq_true rfl) dX4_enter_45 ?_
            refine fp_X4_27 C hP hD hS 0 rfl rfl rfl (Nat.le_of_ble_eq_true rfl) (w' := [(t0, .inr (6, [.ref t1, .ref t2, .ref t3, .int (if 5 < (nI ((zn r1) + 1)) then 5 else nI ((zn r1) + 1))])), (t1, .inl (cy 0, 5, .inl (fr0))), (t2, .inl (cy 0, 5, .inl (fr1))), (t3, .inl (cy 0, 5, .inl (fr2)))]) rfl dX4_enter_48 (fun H locs hP hD hS => ?_)
            refine lv_aload_n hX hB dX4_enter_51 rfl (lv_at hl 1 rfl) ?_
            refine fg_X4_27 C hP 0 rfl rfl dX4_enter_52 ?_
            refine lv_iconst (v := 1) hX hB dX4_enter_55 (by decide) ?_
            refine z_isub (v := nI ((min ((zn r1) + 1) 5) - 1)) C dX4_enter_56 (zi_sub (zi_min (zi_i ((zn r1) + 1)) (zlit 5) (by omega) (by decide)) (zlit 1) (by omega)) ?_
            refine lv_istore (lv' := [(5, .int (nI ((min ((zn r1) + 1) 5) - 1))), (4, .int (nI p)), (0, .ref t0), (1, .int x), (2, .int y), (3, .int z)]) hX hB dX4_enter_57 hl (by decide) rfl (fun ls hl => ?_)
            have loop_2 : ∀ (n_13 : Nat) (f_14 : Nat → Int32) (f_15 : Nat → Int32) (f_16 : Nat → Int32) (k : Nat), (k ≤ 4) → k < n_13 → n_X4_enter_L3 r1 x y z p n_13 f_14 f_15 f_16 k = n_X4_enter r1 fr0 fr1 fr2 x y z → ∀ (H : Heap) (locs : List Loc), va_P D vwCl [(t0, .inr (6, [.ref t1, .ref t2, .ref t3, .int (if 5 < (nI ((zn r1) + 1)) then 5 else nI ((zn r1) + 1))])), (t1, .inl (cy 0, 5, .inl (f_14))), (t2, .inl (cy 0, 5, .inl (f_15))), (t3, .inl (cy 0, 5, .inl (f_16)))] H → va_D A [(t0, .inr (6, [.ref t1, .ref t2, .ref t3, .int (if 5 < (nI ((zn r1) + 1)) then 5 else nI ((zn r1) + 1))])), (t1, .inl (cy 0, 5, .inl (f_14))), (t2, .inl (cy 0, 5, .inl (f_15))), (t3, .inl (cy 0, 5, .inl (f_16)))] → va_S A sT.heap H locs → ∀ (ls : Array Slot), lv_has ls 6 [(5, .int (nI k)), (4, .int (nI p)), (0, .ref t0), (1, .int x), (2, .int y), (3, .int z)] → W pG l eN { frames := 1, cells := 0, slots := 0, locals := 14 } sT mI ([.ref t0, .int x, .int y, .int z] : List Value).toArray below meth cO H locs 0 0 (MQ below (zQv D ((q_X4_enter cy t0 t1 t2 t3) (n_X4_enter r1 fr0 fr1 fr2 x y z)) A) ([.ref t0, .int x, .int y, .int z] : List Value).toArray sT 0 0 A) (F0 mI 59 ls []) := by
              intro n_13
              induction n_13 with
              | zero =>
                intro f_14 f_15 f_16 k hb_2_0 hm_2
                exact absurd hm_2 (by omega)
              | succ n_13 ih_17 =>
                intro f_14 f_15 f_16 k hb_2_0 hm_2 hF_2 H locs hP hD hS ls hl
                refine lv_iload hX hB dX4_enter_59 (lv_at hl 0 rfl) ?_
                refine lv_iload hX hB dX4_enter_61 (lv_at hl 1 rfl) ?_
                refine lv_icmp_le (tgt := 120) hX hB dX4_enter_63 (by decide) (fun c_18 => ?_) (fun c_18 => ?_)
                · have c_18n : k ≤ p := (zi_le_iff (zi_i k) (zi_i p) (by omega) (by omega)).mp c_18
                  refine lv_aload_n hX hB dX4_enter_120 rfl (lv_at hl 2 rfl) ?_
                  refine fg_X4_9 C hP 0 rfl rfl dX4_enter_121 ?_
                  refine lv_iload hX hB dX4_enter_124 (lv_at hl 1 rfl) ?_
                  refine lv_iload_n hX hB dX4_enter_126 rfl (lv_at hl 3 rfl) ?_
                  refine z_iast C hP hD hS 1 rfl (k := p) (zi_i p) (by omega) (by decide) (w' := [(t0, .inr (6, [.ref t1, .ref t2, .ref t3, .int (if 5 < (nI ((zn r1) + 1)) then 5 else nI ((zn r1) + 1))])), (t1, .inl (cy 0, 5, .inl (upd f_14 p x))), (t2, .inl (cy 0, 5, .inl (f_15))), (t3, .inl (cy 0, 5, .inl (f_16)))]) rfl dX4_enter_127 (fun H locs hP hD hS => ?_)
                  refine lv_aload_n hX hB dX4_enter_128 rfl (lv_at hl 2 rfl) ?_
                  refine fg_X4_15 C hP 0 rfl rfl dX4_enter_129 ?_
                  refine lv_iload hX hB dX4_enter_132 (lv_at hl 1 rfl) ?_
                  refine lv_iload_n hX hB dX4_enter_134 rfl (lv_at hl 4 rfl) ?_
                  refine z_iast C hP hD hS 2 rfl (k := p) (zi_i p) (by omega) (by decide) (w' := [(t0, .inr (6, [.ref t1, .ref t2, .ref t3, .int (if 5 < (nI ((zn r1) + 1)) then 5 else nI ((zn r1) + 1))])), (t1, .inl (cy 0, 5, .inl (upd f_14 p x))), (t2, .inl (cy 0, 5, .inl (upd f_15 p y))), (t3, .inl (cy 0, 5, .inl (f_16)))]) rfl dX4_enter_135 (fun H locs hP hD hS => ?_)
                  refine lv_aload_n hX hB dX4_enter_136 rfl (lv_at hl 2 rfl) ?_
                  refine fg_X4_18 C hP 0 rfl rfl dX4_enter_137 ?_
                  refine lv_iload hX hB dX4_enter_140 (lv_at hl 1 rfl) ?_
                  refine lv_iload_n hX hB dX4_enter_142 rfl (lv_at hl 5 rfl) ?_
                  refine z_iast C hP hD hS 3 rfl (k := p) (zi_i p) (by omega) (by decide) (w' := [(t0, .inr (6, [.ref t1, .ref t2, .ref t3, .int (if 5 < (nI ((zn r1) + 1)) then 5 else nI ((zn r1) + 1))])), (t1, .inl (cy 0, 5, .inl (upd f_14 p x))), (t2, .inl (cy 0, 5, .inl (upd f_15 p y))), (t3, .inl (cy 0, 5, .inl (upd f_16 p z)))]) rfl dX4_enter_143 (fun H locs hP hD hS => ?_)
                  exact z_vret' ((if 5 < (nI ((zn r1) + 1)) then 5 else nI ((zn r1) + 1)), upd f_14 p x, upd f_15 p y, upd f_16 p z) (w' := q_X4_enter cy t0 t1 t2 t3) (hF_2.symm.trans (by simp only [n_X4_enter_L3, if_pos c_18])) C hRT hP hD hS (Nat.le_of_ble_eq_true rfl) (Nat.le_of_ble_eq_true rfl) rfl dX4_enter_144
                · have c_18n : ¬ (k ≤ p) := fun z => c_18 ((zi_le_iff (zi_i k) (zi_i p) (by omega) (by omega)).mpr z)
                  refine lv_aload_n hX hB dX4_enter_66 rfl (lv_at hl 2 rfl) ?_
                  refine fg_X4_9 C hP 0 rfl rfl dX4_enter_67 ?_
                  refine lv_iload hX hB dX4_enter_70 (lv_at hl 0 rfl) ?_
                  refine lv_aload_n hX hB dX4_enter_72 rfl (lv_at hl 2 rfl) ?_
                  refine fg_X4_9 C hP 0 rfl rfl dX4_enter_73 ?_
                  refine lv_iload hX hB dX4_enter_76 (lv_at hl 0 rfl) ?_
                  refine lv_iconst (v := 1) hX hB dX4_enter_78 (by decide) ?_
                  refine z_isub (v := nI (k - 1)) C dX4_enter_79 (zi_sub (zi_i k) (zlit 1) (by omega)) ?_
                  refine z_iald C hP 1 rfl (k := k - 1) (zi_i (k - 1)) (by omega) (by decide) (v := f_14 (k - 1)) rfl dX4_enter_80 ?_
                  refine z_iast C hP hD hS 1 rfl (k := k) (zi_i k) (by omega) (by decide) (w' := [(t0, .inr (6, [.ref t1, .ref t2, .ref t3, .int (if 5 < (nI ((zn r1) + 1)) then 5 else nI ((zn r1) + 1))])), (t1, .inl (cy 0, 5, .inl (upd f_14 k (f_14 (k - 1))))), (t2, .inl (cy 0, 5, .inl (f_15))), (t3, .inl (cy 0, 5, .inl (f_16)))]) rfl dX4_enter_81 (fun H locs hP hD hS => ?_)
                  refine lv_aload_n hX hB dX4_enter_82 rfl (lv_at hl 2 rfl) ?_
                  refine fg_X4_15 C hP 0 rfl rfl dX4_enter_83 ?_
                  refine lv_iload hX hB dX4_enter_86 (lv_at hl 0 rfl) ?_
                  refine lv_aload_n hX hB dX4_enter_88 rfl (lv_at hl 2 rfl) ?_
                  refine fg_X4_15 C hP 0 rfl rfl dX4_enter_89 ?_
                  refine lv_iload hX hB dX4_enter_92 (lv_at hl 0 rfl) ?_
                  refine lv_iconst (v := 1) hX hB dX4_enter_94 (by decide) ?_
                  refine z_isub (v := nI (k - 1)) C dX4_enter_95 (zi_sub (zi_i k) (zlit 1) (by omega)) ?_
                  refine z_iald C hP 2 rfl (k := k - 1) (zi_i (k - 1)) (by omega) (by decide) (v := f_15 (k - 1)) rfl dX4_enter_96 ?_
                  refine z_iast C hP hD hS 2 rfl (k := k) (zi_i k) (by omega) (by decide) (w' := [(t0, .inr (6, [.ref t1, .ref t2, .ref t3, .int (if 5 < (nI ((zn r1) + 1)) then 5 else nI ((zn r1) + 1))])), (t1, .inl (cy 0, 5, .inl (upd f_14 k (f_14 (k - 1))))), (t2, .inl (cy 0, 5, .inl (upd f_15 k (f_15 (k - 1))))), (t3, .inl (cy 0, 5, .inl (f_16)))]) rfl dX4_enter_97 (fun H locs hP hD hS => ?_)
                  refine lv_aload_n hX hB dX4_enter_98 rfl (lv_at hl 2 rfl) ?_
                  refine fg_X4_18 C hP 0 rfl rfl dX4_enter_99 ?_
                  refine lv_iload hX hB dX4_enter_102 (lv_at hl 0 rfl) ?_
                  refine lv_aload_n hX hB dX4_enter_104 rfl (lv_at hl 2 rfl) ?_
                  refine fg_X4_18 C hP 0 rfl rfl dX4_enter_105 ?_
                  refine lv_iload hX hB dX4_enter_108 (lv_at hl 0 rfl) ?_
                  refine lv_iconst (v := 1) hX hB dX4_enter_110 (by decide) ?_
                  refine z_isub (v := nI (k - 1)) C dX4_enter_111 (zi_sub (zi_i k) (zlit 1) (by omega)) ?_
                  refine z_iald C hP 3 rfl (k := k - 1) (zi_i (k - 1)) (by omega) (by decide) (v := f_16 (k - 1)) rfl dX4_enter_112 ?_
                  refine z_iast C hP hD hS 3 rfl (k := k) (zi_i k) (by omega) (by decide) (w' := [(t0, .inr (6, [.ref t1, .ref t2, .ref t3, .int (if 5 < (nI ((zn r1) + 1)) then 5 else nI ((zn r1) + 1))])), (t1, .inl (cy 0, 5, .inl (upd f_14 k (f_14 (k - 1))))), (t2, .inl (cy 0, 5, .inl (upd f_15 k (f_15 (k - 1))))), (t3, .inl (cy 0, 5, .inl (upd f_16 k (f_16 (k - 1)))))]) rfl dX4_enter_113 (fun H locs hP hD hS => ?_)
                  refine lv_iinc (v := nI (k - 1)) (lv' := [(5, .int (nI (k - 1))), (4, .int (nI p)), (0, .ref t0), (1, .int x), (2, .int y), (3, .int z)]) hX hB dX4_enter_114 hl (k := 0) rfl (zi_dec2 (zi_i k) (by omega)) (by decide) rfl (fun ls hl => ?_)
                  refine lv_goto (tgt := 59) hX hB dX4_enter_117 (by decide) ?_
                  exact ih_17 (upd f_14 k (f_14 (k - 1))) (upd f_15 k (f_15 (k - 1))) (upd f_16 k (f_16 (k - 1))) (k - 1) (by omega)  (by omega) (Eq.trans (by simp only [n_X4_enter_L3, if_neg c_18]) hF_2) _ _ hP hD hS ls (lv_sub hl [0, 1, 2, 3, 4, 5] rfl)
            exact loop_2 5 fr0 fr1 fr2 ((min ((zn r1) + 1) 5) - 1) (by omega)  (by omega) (Eq.trans (by simp only [n_X4_enter_L1, if_neg c_3, if_pos c_11, if_pos c_12]) hF_0) _ _ hP hD hS ls hl
          · have c_12n : ¬ (p < 5) := fun z => c_12 ((zi_lt_iff (zi_i p) (zlit 5) (by omega) (by decide)).mpr z)
            exact z_vret' (r1, fr0, fr1, fr2) (w' := q_X4_enter cy t0 t1 t2 t3) (hF_0.symm.trans (by simp only [n_X4_enter_L1, if_neg c_3, if_pos c_11, if_neg c_12])) C hRT hP hD hS (Nat.le_of_ble_eq_true rfl) (Nat.le_of_ble_eq_true rfl) rfl dX4_enter_36
        · refine lv_iinc (v := nI (p - 1)) (lv' := [(4, .int (nI (p - 1))), (0, .ref t0), (1, .int x), (2, .int y), (3, .int z)]) hX hB dX4_enter_24 hl (k := 0) rfl (zi_dec2 (zi_i p) (by omega)) (by decide) rfl (fun ls hl => ?_)
          refine lv_goto (tgt := 6) hX hB dX4_enter_27 (by decide) ?_
          exact ih_2 (p - 1) (by omega)  (by omega) (Eq.trans (by simp only [n_X4_enter_L1, if_neg c_3, if_neg c_11]) hF_0) _ _ hP hD hS ls (lv_sub hl [0, 1, 2, 3, 4] rfl)
  exact loop_0 6 (zn r1) (by omega)  (by omega) (by simp only [n_X4_enter]) _ _ hP hD hS ls (by rw [show nI (zn r1) = r1 from Eq.symm hzr1.1]; exact hl)

def n_X4_isBefore (fr0 : Nat → Int32) (fr1 : Nat → Int32) (fr2 : Nat → Int32) (a : Nat) (b : Nat) : Int32 :=
  if fr0 a = fr0 b then
    if fr2 a = fr2 b then
      if fr1 b ≤ fr1 a then
        0
      else
        1
    else
      if fr2 b ≤ fr2 a then
        0
      else
        1
  else
    if fr0 a ≤ fr0 b then
      0
    else
      1
def q_X4_isBefore (cy : Nat → ClassId) (t0 : Nat) (t1 : Nat) (t2 : Nat) (t3 : Nat) (r1 : Int32) (fr0 : Nat → Int32) (fr1 : Nat → Int32) (fr2 : Nat → Int32) (o : Int32) : va_W := [(t0, .inr (6, [.ref t1, .ref t2, .ref t3, .int r1])), (t1, .inl (cy 0, 5, .inl (fr0))), (t2, .inl (cy 0, 5, .inl (fr1))), (t3, .inl (cy 0, 5, .inl (fr2)))]
theorem b_X4_isBefore (fr0 : Nat → Int32) (fr1 : Nat → Int32) (fr2 : Nat → Int32) (a : Nat) (b : Nat) : (n_X4_isBefore fr0 fr1 fr2 a b) = 0 ∨ (n_X4_isBefore fr0 fr1 fr2 a b) = 1 := by
  simp only [n_X4_isBefore]
  repeat (any_goals split)
  all_goals (first | exact Or.inl rfl | exact Or.inr rfl)
set_option maxHeartbeats 4000000 in
set_option maxRecDepth 100000 in
theorem c_X4_isBefore (l : Launch) {E : zEn} (hE : zEok E) (D : zG) (cy : Nat → ClassId) (t0 t1 t2 t3 : Nat) (r1 : Int32) (fr0 : Nat → Int32) (fr1 : Nat → Int32) (fr2 : Nat → Int32) (x : Int32) (a : Nat) (y : Int32) (b : Nat) (hx : zi x a) (hxb : a ≤ 4) (hy : zi y b) (hyb : b ≤ 4) (sz : Nat) : Met l yX4_isBefore (zws yX4_isBefore cX4_isBefore 3 (some .boolean)) { frames := 0, cells := 0, slots := 0, locals := 0 } (zPre E D cy [.ref t0, .int x, .int y] [(t0, .inr (6, [.ref t1, .ref t2, .ref t3, .int r1])), (t1, .inl (cy 0, 5, .inl (fr0))), (t2, .inl (cy 0, 5, .inl (fr1))), (t3, .inl (cy 0, 5, .inl (fr2)))] sz) (zQi D ((q_X4_isBefore cy t0 t1 t2 t3 r1 fr0 fr1 fr2) (n_X4_isBefore fr0 fr1 fr2 a b)) (va_A [(t0, .inr (6, [.ref t1, .ref t2, .ref t3, .int r1])), (t1, .inl (cy 0, 5, .inl (fr0))), (t2, .inl (cy 0, 5, .inl (fr1))), (t3, .inl (cy 0, 5, .inl (fr2)))] sz) ((n_X4_isBefore fr0 fr1 fr2 a b))) 0 0 (va_A [(t0, .inr (6, [.ref t1, .ref t2, .ref t3, .int r1])), (t1, .inl (cy 0, 5, .inl (fr0))), (t2, .inl (cy 0, 5, .inl (fr1))), (t3, .inl (cy 0, 5, .inl (fr2)))] sz) := by
  refine z_of (Qc := fun A => zQi D ((q_X4_isBefore cy t0 t1 t2 t3 r1 fr0 fr1 fr2) (n_X4_isBefore fr0 fr1 fr2 a b)) A ((n_X4_isBefore fr0 fr1 fr2 a b))) (by decide +kernel) (Nat.le_of_ble_eq_true rfl) rfl ?_
  intro pG eN sT mI below meth cO A ls C hRT hnm hA hP hD hS hE0 hl
  have hX := C.x
  have hB := C.b
  refine lv_aload_n hX hB dX4_isBefore_0 rfl (lv_at hl 0 rfl) ?_
  refine fg_X4_9 C hP 0 rfl rfl dX4_isBefore_1 ?_
  refine lv_iload_n hX hB dX4_isBefore_4 rfl (lv_at hl 1 rfl) ?_
  refine z_iald C hP 1 rfl (k := a) hx (by omega) (by decide) (v := fr0 a) rfl dX4_isBefore_5 ?_
  refine lv_aload_n hX hB dX4_isBefore_6 rfl (lv_at hl 0 rfl) ?_
  refine fg_X4_9 C hP 0 rfl rfl dX4_isBefore_7 ?_
  refine lv_iload_n hX hB dX4_isBefore_10 rfl (lv_at hl 2 rfl) ?_
  refine z_iald C hP 1 rfl (k := b) hy (by omega) (by decide) (v := fr0 b) rfl dX4_isBefore_11 ?_
  refine lv_icmp_eq (tgt := 36) hX hB dX4_isBefore_12 (by decide) (fun c_1 => ?_) (fun c_1 => ?_)
  · refine lv_aload_n hX hB dX4_isBefore_36 rfl (lv_at hl 0 rfl) ?_
    refine fg_X4_18 C hP 0 rfl rfl dX4_isBefore_37 ?_
    refine lv_iload_n hX hB dX4_isBefore_40 rfl (lv_at hl 1 rfl) ?_
    refine z_iald C hP 3 rfl (k := a) hx (by omega) (by decide) (v := fr2 a) rfl dX4_isBefore_41 ?_
    refine lv_aload_n hX hB dX4_isBefore_42 rfl (lv_at hl 0 rfl) ?_
    refine fg_X4_18 C hP 0 rfl rfl dX4_isBefore_43 ?_
    refine lv_iload_n hX hB dX4_isBefore_46 rfl (lv_at hl 2 rfl) ?_
    refine z_iald C hP 3 rfl (k := b) hy (by omega) (by decide) (v := fr2 b) rfl dX4_isBefore_47 ?_
    refine lv_icmp_eq (tgt := 72) hX hB dX4_isBefore_48 (by decide) (fun c_2 => ?_) (fun c_2 => ?_)
    · refine lv_aload_n hX hB dX4_isBefore_72 rfl (lv_at hl 0 rfl) ?_
      refine fg_X4_15 C hP 0 rfl rfl dX4_isBefore_73 ?_
      refine lv_iload_n hX hB dX4_isBefore_76 rfl (lv_at hl 1 rfl) ?_
      refine z_iald C hP 2 rfl (k := a) hx (by omega) (by decide) (v := fr1 a) rfl dX4_isBefore_77 ?_
      refine lv_aload_n hX hB dX4_isBefore_78 rfl (lv_at hl 0 rfl) ?_
      refine fg_X4_15 C hP 0 rfl rfl dX4_isBefore_79 ?_
      refine lv_iload_n hX hB dX4_isBefore_82 rfl (lv_at hl 2 rfl) ?_
      refine z_iald C hP 2 rfl (k := b) hy (by omega) (by decide) (v := fr1 b) rfl dX4_isBefore_83 ?_
      refine lv_icmp_ge (tgt := 91) hX hB dX4_isBefore_84 (by decide) (fun c_3 => ?_) (fun c_3 => ?_)
      · refine lv_iconst (v := 0) hX hB dX4_isBefore_91 (by decide) ?_
        exact z_zret' 0 (w' := q_X4_isBefore cy t0 t1 t2 t3 r1 fr0 fr1 fr2) (r0 := (fun (o : Int32) => o)) (by simp only [n_X4_isBefore, if_pos c_1, if_pos c_2, if_pos c_3]) C hRT (zb01 (Or.inl rfl)) hP hD hS (Nat.le_of_ble_eq_true rfl) (Nat.le_of_ble_eq_true rfl) rfl rfl dX4_isBefore_92
      · refine lv_iconst (v := 1) hX hB dX4_isBefore_87 (by decide) ?_
        refine lv_goto (tgt := 92) hX hB dX4_isBefore_88 (by decide) ?_
        exact z_zret' 1 (w' := q_X4_isBefore cy t0 t1 t2 t3 r1 fr0 fr1 fr2) (r0 := (fun (o : Int32) => o)) (by simp only [n_X4_isBefore, if_pos c_1, if_pos c_2, if_neg c_3]) C hRT (zb01 (Or.inr rfl)) hP hD hS (Nat.le_of_ble_eq_true rfl) (Nat.le_of_ble_eq_true rfl) rfl rfl dX4_isBefore_92
    · refine lv_aload_n hX hB dX4_isBefore_51 rfl (lv_at hl 0 rfl) ?_
      refine fg_X4_18 C hP 0 rfl rfl dX4_isBefore_52 ?_
      refine lv_iload_n hX hB dX4_isBefore_55 rfl (lv_at hl 1 rfl) ?_
      refine z_iald C hP 3 rfl (k := a) hx (by omega) (by decide) (v := fr2 a) rfl dX4_isBefore_56 ?_
      refine lv_aload_n hX hB dX4_isBefore_57 rfl (lv_at hl 0 rfl) ?_
      refine fg_X4_18 C hP 0 rfl rfl dX4_isBefore_58 ?_
      refine lv_iload_n hX hB dX4_isBefore_61 rfl (lv_at hl 2 rfl) ?_
      refine z_iald C hP 3 rfl (k := b) hy (by omega) (by decide) (v := fr2 b) rfl dX4_isBefore_62 ?_
      refine lv_icmp_ge (tgt := 70) hX hB dX4_isBefore_63 (by decide) (fun c_4 => ?_) (fun c_4 => ?_)
      · refine lv_iconst (v := 0) hX hB dX4_isBefore_70 (by decide) ?_
        exact z_zret' 0 (w' := q_X4_isBefore cy t0 t1 t2 t3 r1 fr0 fr1 fr2) (r0 := (fun (o : Int32) => o)) (by simp only [n_X4_isBefore, if_pos c_1, if_neg c_2, if_pos c_4]) C hRT (zb01 (Or.inl rfl)) hP hD hS (Nat.le_of_ble_eq_true rfl) (Nat.le_of_ble_eq_true rfl) rfl rfl dX4_isBefore_71
      · refine lv_iconst (v := 1) hX hB dX4_isBefore_66 (by decide) ?_
        refine lv_goto (tgt := 71) hX hB dX4_isBefore_67 (by decide) ?_
        exact z_zret' 1 (w' := q_X4_isBefore cy t0 t1 t2 t3 r1 fr0 fr1 fr2) (r0 := (fun (o : Int32) => o)) (by simp only [n_X4_isBefore, if_pos c_1, if_neg c_2, if_neg c_4]) C hRT (zb01 (Or.inr rfl)) hP hD hS (Nat.le_of_ble_eq_true rfl) (Nat.le_of_ble_eq_true rfl) rfl rfl dX4_isBefore_71
  · refine lv_aload_n hX hB dX4_isBefore_15 rfl (lv_at hl 0 rfl) ?_
    refine fg_X4_9 C hP 0 rfl rfl dX4_isBefore_16 ?_
    refine lv_iload_n hX hB dX4_isBefore_19 rfl (lv_at hl 1 rfl) ?_
    refine z_iald C hP 1 rfl (k := a) hx (by omega) (by decide) (v := fr0 a) rfl dX4_isBefore_20 ?_
    refine lv_aload_n hX hB dX4_isBefore_21 rfl (lv_at hl 0 rfl) ?_
    refine fg_X4_9 C hP 0 rfl rfl dX4_isBefore_22 ?_
    refine lv_iload_n hX hB dX4_isBefore_25 rfl (lv_at hl 2 rfl) ?_
    refine z_iald C hP 1 rfl (k := b) hy (by omega) (by decide) (v := fr0 b) rfl dX4_isBefore_26 ?_
    refine lv_icmp_le (tgt := 34) hX hB dX4_isBefore_27 (by decide) (fun c_5 => ?_) (fun c_5 => ?_)
    · refine lv_iconst (v := 0) hX hB dX4_isBefore_34 (by decide) ?_
      exact z_zret' 0 (w' := q_X4_isBefore cy t0 t1 t2 t3 r1 fr0 fr1 fr2) (r0 := (fun (o : Int32) => o)) (by simp only [n_X4_isBefore, if_neg c_1, if_pos c_5]) C hRT (zb01 (Or.inl rfl)) hP hD hS (Nat.le_of_ble_eq_true rfl) (Nat.le_of_ble_eq_true rfl) rfl rfl dX4_isBefore_35
    · refine lv_iconst (v := 1) hX hB dX4_isBefore_30 (by decide) ?_
      refine lv_goto (tgt := 35) hX hB dX4_isBefore_31 (by decide) ?_
      exact z_zret' 1 (w' := q_X4_isBefore cy t0 t1 t2 t3 r1 fr0 fr1 fr2) (r0 := (fun (o : Int32) => o)) (by simp only [n_X4_isBefore, if_neg c_1, if_neg c_5]) C hRT (zb01 (Or.inr rfl)) hP hD hS (Nat.le_of_ble_eq_true rfl) (Nat.le_of_ble_eq_true rfl) rfl rfl dX4_isBefore_35

def n_X4_areSorted (r1 : Int32) (fr0 : Nat → Int32) (fr1 : Nat → Int32) (fr2 : Nat → Int32) : Int32 :=
  if r1 ≤ 1 then
    1
  else
    let o_2 := n_X4_isBefore fr0 fr1 fr2 0 1
    if o_2 = 0 then
      0
    else
      if r1 ≤ 2 then
        1
      else
        let o_5 := n_X4_isBefore fr0 fr1 fr2 1 2
        if o_5 = 0 then
          0
        else
          if r1 ≤ 3 then
            1
          else
            let o_8 := n_X4_isBefore fr0 fr1 fr2 2 3
            if o_8 = 0 then
              0
            else
              if r1 ≤ 4 then
                1
              else
                let o_11 := n_X4_isBefore fr0 fr1 fr2 3 4
                if o_11 = 0 then
                  0
                else
                  1
def q_X4_areSorted (cy : Nat → ClassId) (t0 : Nat) (t1 : Nat) (t2 : Nat) (t3 : Nat) (r1 : Int32) (fr0 : Nat → Int32) (fr1 : Nat → Int32) (fr2 : Nat → Int32) (o : Int32) : va_W := [(t0, .inr (6, [.ref t1, .ref t2, .ref t3, .int r1])), (t1, .inl (cy 0, 5, .inl (fr0))), (t2, .inl (cy 0, 5, .inl (fr1))), (t3, .inl (cy 0, 5, .inl (fr2)))]
theorem b_X4_areSorted (r1 : Int32) (fr0 : Nat → Int32) (fr1 : Nat → Int32) (fr2 : Nat → Int32) : (n_X4_areSorted r1 fr0 fr1 fr2) = 0 ∨ (n_X4_areSorted r1 fr0 fr1 fr2) = 1 := by
  simp only [n_X4_areSorted]
  repeat (any_goals split)
  all_goals (first | exact Or.inl rfl | exact Or.inr rfl)
set_option maxHeartbeats 4000000 in
set_option maxRecDepth 100000 in
theorem c_X4_areSorted (l : Launch) {E : zEn} (hE : zEok E) (D : zG) (cy : Nat → ClassId) (t0 t1 t2 t3 : Nat) (r1 : Int32) (fr0 : Nat → Int32) (fr1 : Nat → Int32) (fr2 : Nat → Int32) (hzr1 : zle r1 5) (sz : Nat) : Met l yX4_areSorted (zws yX4_areSorted cX4_areSorted 2 (some .boolean)) { frames := 1, cells := 0, slots := 0, locals := 22 } (zPre E D cy [.ref t0] [(t0, .inr (6, [.ref t1, .ref t2, .ref t3, .int r1])), (t1, .inl (cy 0, 5, .inl (fr0))), (t2, .inl (cy 0, 5, .inl (fr1))), (t3, .inl (cy 0, 5, .inl (fr2)))] sz) (zQi D ((q_X4_areSorted cy t0 t1 t2 t3 r1 fr0 fr1 fr2) (n_X4_areSorted r1 fr0 fr1 fr2)) (va_A [(t0, .inr (6, [.ref t1, .ref t2, .ref t3, .int r1])), (t1, .inl (cy 0, 5, .inl (fr0))), (t2, .inl (cy 0, 5, .inl (fr1))), (t3, .inl (cy 0, 5, .inl (fr2)))] sz) ((n_X4_areSorted r1 fr0 fr1 fr2))) 0 0 (va_A [(t0, .inr (6, [.ref t1, .ref t2, .ref t3, .int r1])), (t1, .inl (cy 0, 5, .inl (fr0))), (t2, .inl (cy 0, 5, .inl (fr1))), (t3, .inl (cy 0, 5, .inl (fr2)))] sz) := by
  refine z_of (Qc := fun A => zQi D ((q_X4_areSorted cy t0 t1 t2 t3 r1 fr0 fr1 fr2) (n_X4_areSorted r1 fr0 fr1 fr2)) A ((n_X4_areSorted r1 fr0 fr1 fr2))) (by decide +kernel) (Nat.le_of_ble_eq_true rfl) rfl ?_
  intro pG eN sT mI below meth cO A ls C hRT hnm hA hP hD hS hE0 hl
  have hX := C.x
  have hB := C.b
  have hzr1_ := hzr1.2
  refine lv_iconst (v := 1) hX hB dX4_areSorted_0 (by decide) ?_
  refine lv_istore_n (lv' := [(1, .int 1), (0, .ref t0)]) hX hB dX4_areSorted_1 rfl hl (by decide) rfl (fun ls hl => ?_)
  refine lv_iload_n hX hB dX4_areSorted_2 rfl (lv_at hl 0 rfl) ?_
  refine lv_aload_n hX hB dX4_areSorted_3 rfl (lv_at hl 1 rfl) ?_
  refine fg_X4_27 C hP 0 rfl rfl dX4_areSorted_4 ?_
  refine lv_icmp_ge (tgt := 29) hX hB dX4_areSorted_7 (by decide) (fun c_1 => ?_) (fun c_1 => ?_)
  · have c_1n : zn r1 ≤ 1 := (zi_le_iff hzr1.1 (zlit 1) (by omega) (by decide)).mp c_1
    refine lv_iconst (v := 1) hX hB dX4_areSorted_29 (by decide) ?_
    exact z_zret' 1 (w' := q_X4_areSorted cy t0 t1 t2 t3 r1 fr0 fr1 fr2) (r0 := (fun (o : Int32) => o)) (by simp only [n_X4_areSorted, if_pos c_1]) C hRT (zb01 (Or.inr rfl)) hP hD hS (Nat.le_of_ble_eq_true rfl) (Nat.le_of_ble_eq_true rfl) rfl rfl dX4_areSorted_30
  · have c_1n : ¬ (zn r1 ≤ 1) := fun z => c_1 ((zi_le_iff hzr1.1 (zlit 1) (by omega) (by decide)).mpr z)
    refine lv_aload_n hX hB dX4_areSorted_10 rfl (lv_at hl 1 rfl) ?_
    refine lv_iload_n hX hB dX4_areSorted_11 rfl (lv_at hl 0 rfl) ?_
    refine lv_iconst (v := 1) hX hB dX4_areSorted_12 (by decide) ?_
    refine z_isub (v := 0) C dX4_areSorted_13 (by decide) ?_
    refine lv_iload_n hX hB dX4_areSorted_14 rfl (lv_at hl 0 rfl) ?_
    refine z_callVi (isC := [0, 1, 2, 3]) (isR := []) (isO := [0, 1, 2, 3]) (n_X4_isBefore fr0 fr1 fr2 0 1) (q_X4_isBefore cy t0 t1 t2 t3 r1 fr0 fr1 fr2) (fun o_2 => [(t0, .inr (6, [.ref t1, .ref t2, .ref t3, .int r1])), (t1, .inl (cy 0, 5, .inl (fr0))), (t2, .inl (cy 0, 5, .inl (fr1))), (t3, .inl (cy 0, 5, .inl (fr2)))]) (fun o_2 => o_2) (c_X4_isBefore l hE D cy t0 t1 t2 t3 r1 fr0 fr1 fr2 0 0 1 1 (zlit 0) (by omega) (zlit 1) (by omega)) hE C zs_X4_37 ⟨Nat.le_of_ble_eq_true rfl, Nat.le_of_ble_eq_true rfl⟩ hP hD hS hA hE0 ⟨rfl, rfl, rfl, by decide, rfl, rfl, rfl⟩ 0 rfl rfl rfl rfl hl.1 (Nat.le_of_ble_eq_true rfl) rfl dX4_areSorted_15 ⟨Nat.le_of_ble_eq_true rfl, Nat.le_of_ble_eq_true rfl⟩ (fun o_2 H locs eo_2 hP hD hS => ?_)
    refine lv_if_ne (tgt := 23) hX hB dX4_areSorted_18 (by decide) (fun c_3 => ?_) (fun c_3 => ?_)
    · refine lv_iinc (v := 2) (lv' := [(1, .int 2), (0, .ref t0)]) hX hB dX4_areSorted_23 hl (k := 0) rfl (by decide) (by decide) rfl (fun ls hl => ?_)
      refine lv_goto (tgt := 2) hX hB dX4_areSorted_26 (by decide) ?_
      refine lv_iload_n hX hB dX4_areSorted_2 rfl (lv_at hl 0 rfl) ?_
      refine lv_aload_n hX hB dX4_areSorted_3 rfl (lv_at hl 1 rfl) ?_
      refine fg_X4_27 C hP 0 rfl rfl dX4_areSorted_4 ?_
      refine lv_icmp_ge (tgt := 29) hX hB dX4_areSorted_7 (by decide) (fun c_4 => ?_) (fun c_4 => ?_)
      · have c_4n : zn r1 ≤ 2 := (zi_le_iff hzr1.1 (zlit 2) (by omega) (by decide)).mp c_4
        refine lv_iconst (v := 1) hX hB dX4_areSorted_29 (by decide) ?_
        exact z_zret' 1 (w' := q_X4_areSorted cy t0 t1 t2 t3 r1 fr0 fr1 fr2) (r0 := (fun (o : Int32) => o)) (by simp only [n_X4_areSorted, if_neg c_1, ← eo_2, if_neg c_3, if_pos c_4]) C hRT (zb01 (Or.inr rfl)) hP hD hS (Nat.le_of_ble_eq_true rfl) (Nat.le_of_ble_eq_true rfl) rfl rfl dX4_areSorted_30
      · have c_4n : ¬ (zn r1 ≤ 2) := fun z => c_4 ((zi_le_iff hzr1.1 (zlit 2) (by omega) (by decide)).mpr z)
        refine lv_aload_n hX hB dX4_areSorted_10 rfl (lv_at hl 1 rfl) ?_
        refine lv_iload_n hX hB dX4_areSorted_11 rfl (lv_at hl 0 rfl) ?_
        refine lv_iconst (v := 1) hX hB dX4_areSorted_12 (by decide) ?_
        refine z_isub (v := 1) C dX4_areSorted_13 (by decide) ?_
        refine lv_iload_n hX hB dX4_areSorted_14 rfl (lv_at hl 0 rfl) ?_
        refine z_callVi (isC := [0, 1, 2, 3]) (isR := []) (isO := [0, 1, 2, 3]) (n_X4_isBefore fr0 fr1 fr2 1 2) (q_X4_isBefore cy t0 t1 t2 t3 r1 fr0 fr1 fr2) (fun o_5 => [(t0, .inr (6, [.ref t1, .ref t2, .ref t3, .int r1])), (t1, .inl (cy 0, 5, .inl (fr0))), (t2, .inl (cy 0, 5, .inl (fr1))), (t3, .inl (cy 0, 5, .inl (fr2)))]) (fun o_5 => o_5) (c_X4_isBefore l hE D cy t0 t1 t2 t3 r1 fr0 fr1 fr2 1 1 2 2 (zlit 1) (by omega) (zlit 2) (by omega)) hE C zs_X4_37 ⟨Nat.le_of_ble_eq_true rfl, Nat.le_of_ble_eq_true rfl⟩ hP hD hS hA hE0 ⟨rfl, rfl, rfl, by decide, rfl, rfl, rfl⟩ 0 rfl rfl rfl rfl hl.1 (Nat.le_of_ble_eq_true rfl) rfl dX4_areSorted_15 ⟨Nat.le_of_ble_eq_true rfl, Nat.le_of_ble_eq_true rfl⟩ (fun o_5 H locs eo_5 hP hD hS => ?_)
        refine lv_if_ne (tgt := 23) hX hB dX4_areSorted_18 (by decide) (fun c_6 => ?_) (fun c_6 => ?_)
        · refine lv_iinc (v := 3) (lv' := [(1, .int 3), (0, .ref t0)]) hX hB dX4_areSorted_23 hl (k := 0) rfl (by decide) (by decide) rfl (fun ls hl => ?_)
          refine lv_goto (tgt := 2) hX hB dX4_areSorted_26 (by decide) ?_
          refine lv_iload_n hX hB dX4_areSorted_2 rfl (lv_at hl 0 rfl) ?_
          refine lv_aload_n hX hB dX4_areSorted_3 rfl (lv_at hl 1 rfl) ?_
          refine fg_X4_27 C hP 0 rfl rfl dX4_areSorted_4 ?_
          refine lv_icmp_ge (tgt := 29) hX hB dX4_areSorted_7 (by decide) (fun c_7 => ?_) (fun c_7 => ?_)
          · have c_7n : zn r1 ≤ 3 := (zi_le_iff hzr1.1 (zlit 3) (by omega) (by decide)).mp c_7
            refine lv_iconst (v := 1) hX hB dX4_areSorted_29 (by decide) ?_
            exact z_zret' 1 (w' := q_X4_areSorted cy t0 t1 t2 t3 r1 fr0 fr1 fr2) (r0 := (fun (o : Int32) => o)) (by simp only [n_X4_areSorted, if_neg c_1, ← eo_2, if_neg c_3, if_neg c_4, ← eo_5, if_neg c_6, if_pos c_7]) C hRT (zb01 (Or.inr rfl)) hP hD hS (Nat.le_of_ble_eq_true rfl) (Nat.le_of_ble_eq_true rfl) rfl rfl dX4_areSorted_30
          · have c_7n : ¬ (zn r1 ≤ 3) := fun z => c_7 ((zi_le_iff hzr1.1 (zlit 3) (by omega) (by decide)).mpr z)
            refine lv_aload_n hX hB dX4_areSorted_10 rfl (lv_at hl 1 rfl) ?_
            refine lv_iload_n hX hB dX4_areSorted_11 rfl (lv_at hl 0 rfl) ?_
            refine lv_iconst (v := 1) hX hB dX4_areSorted_12 (by decide) ?_
            refine z_isub (v := 2) C dX4_areSorted_13 (by decide) ?_
            refine lv_iload_n hX hB dX4_areSorted_14 rfl (lv_at hl 0 rfl) ?_
            refine z_callVi (isC := [0, 1, 2, 3]) (isR := []) (isO := [0, 1, 2, 3]) (n_X4_isBefore fr0 fr1 fr2 2 3) (q_X4_isBefore cy t0 t1 t2 t3 r1 fr0 fr1 fr2) (fun o_8 => [(t0, .inr (6, [.ref t1, .ref t2, .ref t3, .int r1])), (t1, .inl (cy 0, 5, .inl (fr0))), (t2, .inl (cy 0, 5, .inl (fr1))), (t3, .inl (cy 0, 5, .inl (fr2)))]) (fun o_8 => o_8) (c_X4_isBefore l hE D cy t0 t1 t2 t3 r1 fr0 fr1 fr2 2 2 3 3 (zlit 2) (by omega) (zlit 3) (by omega)) hE C zs_X4_37 ⟨Nat.le_of_ble_eq_true rfl, Nat.le_of_ble_eq_true rfl⟩ hP hD hS hA hE0 ⟨rfl, rfl, rfl, by decide, rfl, rfl, rfl⟩ 0 rfl rfl rfl rfl hl.1 (Nat.le_of_ble_eq_true rfl) rfl dX4_areSorted_15 ⟨Nat.le_of_ble_eq_true rfl, Nat.le_of_ble_eq_true rfl⟩ (fun o_8 H locs eo_8 hP hD hS => ?_)
            refine lv_if_ne (tgt := 23) hX hB dX4_areSorted_18 (by decide) (fun c_9 => ?_) (fun c_9 => ?_)
            · refine lv_iinc (v := 4) (lv' := [(1, .int 4), (0, .ref t0)]) hX hB dX4_areSorted_23 hl (k := 0) rfl (by decide) (by decide) rfl (fun ls hl => ?_)
              refine lv_goto (tgt := 2) hX hB dX4_areSorted_26 (by decide) ?_
              refine lv_iload_n hX hB dX4_areSorted_2 rfl (lv_at hl 0 rfl) ?_
              refine lv_aload_n hX hB dX4_areSorted_3 rfl (lv_at hl 1 rfl) ?_
              refine fg_X4_27 C hP 0 rfl rfl dX4_areSorted_4 ?_
              refine lv_icmp_ge (tgt := 29) hX hB dX4_areSorted_7 (by decide) (fun c_10 => ?_) (fun c_10 => ?_)
              · have c_10n : zn r1 ≤ 4 := (zi_le_iff hzr1.1 (zlit 4) (by omega) (by decide)).mp c_10
                refine lv_iconst (v := 1) hX hB dX4_areSorted_29 (by decide) ?_
                exact z_zret' 1 (w' := q_X4_areSorted cy t0 t1 t2 t3 r1 fr0 fr1 fr2) (r0 := (fun (o : Int32) => o)) (by simp only [n_X4_areSorted, if_neg c_1, ← eo_2, if_neg c_3, if_neg c_4, ← eo_5, if_neg c_6, if_neg c_7, ← eo_8, if_neg c_9, if_pos c_10]) C hRT (zb01 (Or.inr rfl)) hP hD hS (Nat.le_of_ble_eq_true rfl) (Nat.le_of_ble_eq_true rfl) rfl rfl dX4_areSorted_30
              · have c_10n : ¬ (zn r1 ≤ 4) := fun z => c_10 ((zi_le_iff hzr1.1 (zlit 4) (by omega) (by decide)).mpr z)
                refine lv_aload_n hX hB dX4_areSorted_10 rfl (lv_at hl 1 rfl) ?_
                refine lv_iload_n hX hB dX4_areSorted_11 rfl (lv_at hl 0 rfl) ?_
                refine lv_iconst (v := 1) hX hB dX4_areSorted_12 (by decide) ?_
                refine z_isub (v := 3) C dX4_areSorted_13 (by decide) ?_
                refine lv_iload_n hX hB dX4_areSorted_14 rfl (lv_at hl 0 rfl) ?_
                refine z_callVi (isC := [0, 1, 2, 3]) (isR := []) (isO := [0, 1, 2, 3]) (n_X4_isBefore fr0 fr1 fr2 3 4) (q_X4_isBefore cy t0 t1 t2 t3 r1 fr0 fr1 fr2) (fun o_11 => [(t0, .inr (6, [.ref t1, .ref t2, .ref t3, .int r1])), (t1, .inl (cy 0, 5, .inl (fr0))), (t2, .inl (cy 0, 5, .inl (fr1))), (t3, .inl (cy 0, 5, .inl (fr2)))]) (fun o_11 => o_11) (c_X4_isBefore l hE D cy t0 t1 t2 t3 r1 fr0 fr1 fr2 3 3 4 4 (zlit 3) (by omega) (zlit 4) (by omega)) hE C zs_X4_37 ⟨Nat.le_of_ble_eq_true rfl, Nat.le_of_ble_eq_true rfl⟩ hP hD hS hA hE0 ⟨rfl, rfl, rfl, by decide, rfl, rfl, rfl⟩ 0 rfl rfl rfl rfl hl.1 (Nat.le_of_ble_eq_true rfl) rfl dX4_areSorted_15 ⟨Nat.le_of_ble_eq_true rfl, Nat.le_of_ble_eq_true rfl⟩ (fun o_11 H locs eo_11 hP hD hS => ?_)
                refine lv_if_ne (tgt := 23) hX hB dX4_areSorted_18 (by decide) (fun c_12 => ?_) (fun c_12 => ?_)
                · refine lv_iinc (v := 5) (lv' := [(1, .int 5), (0, .ref t0)]) hX hB dX4_areSorted_23 hl (k := 0) rfl (by decide) (by decide) rfl (fun ls hl => ?_)
                  refine lv_goto (tgt := 2) hX hB dX4_areSorted_26 (by decide) ?_
                  refine lv_iload_n hX hB dX4_areSorted_2 rfl (lv_at hl 0 rfl) ?_
                  refine lv_aload_n hX hB dX4_areSorted_3 rfl (lv_at hl 1 rfl) ?_
                  refine fg_X4_27 C hP 0 rfl rfl dX4_areSorted_4 ?_
                  refine lv_icmp_ge (tgt := 29) hX hB dX4_areSorted_7 (by decide) (fun _ => ?_) (fun c => absurd (zi_le hzr1.1 (zlit 5) (by omega) (by decide)) c)
                  refine lv_iconst (v := 1) hX hB dX4_areSorted_29 (by decide) ?_
                  exact z_zret' 1 (w' := q_X4_areSorted cy t0 t1 t2 t3 r1 fr0 fr1 fr2) (r0 := (fun (o : Int32) => o)) (by simp only [n_X4_areSorted, if_neg c_1, ← eo_2, if_neg c_3, if_neg c_4, ← eo_5, if_neg c_6, if_neg c_7, ← eo_8, if_neg c_9, if_neg c_10, ← eo_11, if_neg c_12]) C hRT (zb01 (Or.inr rfl)) hP hD hS (Nat.le_of_ble_eq_true rfl) (Nat.le_of_ble_eq_true rfl) rfl rfl dX4_areSorted_30
                · refine lv_iconst (v := 0) hX hB dX4_areSorted_21 (by decide) ?_
                  exact z_zret' 0 (w' := q_X4_areSorted cy t0 t1 t2 t3 r1 fr0 fr1 fr2) (r0 := (fun (o : Int32) => o)) (by simp only [n_X4_areSorted, if_neg c_1, ← eo_2, if_neg c_3, if_neg c_4, ← eo_5, if_neg c_6, if_neg c_7, ← eo_8, if_neg c_9, if_neg c_10, ← eo_11, if_pos c_12]) C hRT (zb01 (Or.inl rfl)) hP hD hS (Nat.le_of_ble_eq_true rfl) (Nat.le_of_ble_eq_true rfl) rfl rfl dX4_areSorted_22
            · refine lv_iconst (v := 0) hX hB dX4_areSorted_21 (by decide) ?_
              exact z_zret' 0 (w' := q_X4_areSorted cy t0 t1 t2 t3 r1 fr0 fr1 fr2) (r0 := (fun (o : Int32) => o)) (by simp only [n_X4_areSorted, if_neg c_1, ← eo_2, if_neg c_3, if_neg c_4, ← eo_5, if_neg c_6, if_neg c_7, ← eo_8, if_pos c_9]) C hRT (zb01 (Or.inl rfl)) hP hD hS (Nat.le_of_ble_eq_true rfl) (Nat.le_of_ble_eq_true rfl) rfl rfl dX4_areSorted_22
        · refine lv_iconst (v := 0) hX hB dX4_areSorted_21 (by decide) ?_
          exact z_zret' 0 (w' := q_X4_areSorted cy t0 t1 t2 t3 r1 fr0 fr1 fr2) (r0 := (fun (o : Int32) => o)) (by simp only [n_X4_areSorted, if_neg c_1, ← eo_2, if_neg c_3, if_neg c_4, ← eo_5, if_pos c_6]) C hRT (zb01 (Or.inl rfl)) hP hD hS (Nat.le_of_ble_eq_true rfl) (Nat.le_of_ble_eq_true rfl) rfl rfl dX4_areSorted_22
    · refine lv_iconst (v := 0) hX hB dX4_areSorted_21 (by decide) ?_
      exact z_zret' 0 (w' := q_X4_areSorted cy t0 t1 t2 t3 r1 fr0 fr1 fr2) (r0 := (fun (o : Int32) => o)) (by simp only [n_X4_areSorted, if_neg c_1, ← eo_2, if_pos c_3]) C hRT (zb01 (Or.inl rfl)) hP hD hS (Nat.le_of_ble_eq_true rfl) (Nat.le_of_ble_eq_true rfl) rfl rfl dX4_areSorted_22

def n_X7_copyFrom (fp : Nat → Int32) (w1b : Int32) (w2b : Int32) (w3b : Int32) (fpb : Nat → Int32) : Int32 × Int32 × Int32 × (Nat → Int32) :=
  (w1b, w2b, w3b, va_cpy fpb fp 0 0 4)
def q_X7_copyFrom (cy : Nat → ClassId) (t0 : Nat) (t1 : Nat) (s0 : Nat) (s1 : Nat) (w1b : Int32) (w2b : Int32) (w3b : Int32) (fpb : Nat → Int32) (o : Int32 × Int32 × Int32 × (Nat → Int32)) : va_W := [(t0, .inr (9, [.ref t1, .int o.1, .int o.2.1, .int o.2.2.1])), (t1, .inl (cy 0, 4, .inl (o.2.2.2))), (s0, .inr (9, [.ref s1, .int w1b, .int w2b, .int w3b])), (s1, .inl (cy 0, 4, .inl (fpb)))]
set_option maxHeartbeats 4000000 in
set_option maxRecDepth 100000 in
theorem c_X7_copyFrom (l : Launch) {E : zEn} (hE : zEok E) (D : zG) (cy : Nat → ClassId) (t0 t1 s0 s1 : Nat) (w1 : Int32) (w2 : Int32) (w3 : Int32) (fp : Nat → Int32) (w1b : Int32) (w2b : Int32) (w3b : Int32) (fpb : Nat → Int32)  (sz : Nat) : Met l yX7_copyFrom (zws yX7_copyFrom cX7_copyFrom 2 none) { frames := 1, cells := 0, slots := 0, locals := 30 } (zPre E D cy [.ref t0, .ref s0] [(t0, .inr (9, [.ref t1, .int w1, .int w2, .int w3])), (t1, .inl (cy 0, 4, .inl (fp))), (s0, .inr (9, [.ref s1, .int w1b, .int w2b, .int w3b])), (s1, .inl (cy 0, 4, .inl (fpb)))] sz) (zQv D ((q_X7_copyFrom cy t0 t1 s0 s1 w1b w2b w3b fpb) (n_X7_copyFrom fp w1b w2b w3b fpb)) (va_A [(t0, .inr (9, [.ref t1, .int w1, .int w2, .int w3])), (t1, .inl (cy 0, 4, .inl (fp))), (s0, .inr (9, [.ref s1, .int w1b, .int w2b, .int w3b])), (s1, .inl (cy 0, 4, .inl (fpb)))] sz)) 0 0 (va_A [(t0, .inr (9, [.ref t1, .int w1, .int w2, .int w3])), (t1, .inl (cy 0, 4, .inl (fp))), (s0, .inr (9, [.ref s1, .int w1b, .int w2b, .int w3b])), (s1, .inl (cy 0, 4, .inl (fpb)))] sz) := by
  refine z_of (Qc := fun A => zQv D ((q_X7_copyFrom cy t0 t1 s0 s1 w1b w2b w3b fpb) (n_X7_copyFrom fp w1b w2b w3b fpb)) A) (by decide +kernel) (Nat.le_of_ble_eq_true rfl) rfl ?_
  intro pG eN sT mI below meth cO A ls C hRT hnm hA hP hD hS hE0 hl
  have hX := C.x
  have hB := C.b
  refine lv_aload_n hX hB dX7_copyFrom_0 rfl (lv_at hl 1 rfl) ?_
  refine fg_X7_9 C hP 2 rfl rfl dX7_copyFrom_1 ?_
  refine lv_iconst (v := 0) hX hB dX7_copyFrom_4 (by decide) ?_
  refine lv_aload_n hX hB dX7_copyFrom_5 rfl (lv_at hl 0 rfl) ?_
  refine fg_X7_9 C hP 0 rfl rfl dX7_copyFrom_6 ?_
  refine lv_iconst (v := 0) hX hB dX7_copyFrom_9 (by decide) ?_
  refine lv_iconst (v := 4) hX hB dX7_copyFrom_10 (by decide) ?_
  refine z_copy C hl.1 zm188 hP hD hS 3 1 rfl rfl 4 (by decide) (by decide) (by decide) (by decide) ⟨Nat.le_of_ble_eq_true rfl, Nat.le_of_ble_eq_true rfl⟩ (w' := [(t0, .inr (9, [.ref t1, .int w1, .int w2, .int w3])), (t1, .inl (cy 0, 4, .inl (va_cpy fpb fp 0 0 4))), (s0, .inr (9, [.ref s1, .int w1b, .int w2b, .int w3b])), (s1, .inl (cy 0, 4, .inl (fpb)))]) rfl dX7_copyFrom_11 (fun H locs hP hD hS => ?_)
  refine lv_aload_n hX hB dX7_copyFrom_14 rfl (lv_at hl 0 rfl) ?_
  refine lv_aload_n hX hB dX7_copyFrom_15 rfl (lv_at hl 1 rfl) ?_
  refine fg_X7_21 C hP 2 rfl rfl dX7_copyFrom_16 ?_
  refine fp_X7_21 C hP hD hS 0 rfl rfl rfl (Nat.le_of_ble_eq_true rfl) (w' := [(t0, .inr (9, [.ref t1, .int w1b, .int w2, .int w3])), (t1, .inl (cy 0, 4, .inl (va_cpy fpb fp 0 0 4))), (s0, .inr (9, [.ref s1, .int w1b, .int w2b, .int w3b])), (s1, .inl (cy 0, 4, .inl (fpb)))]) rfl dX7_copyFrom_19 (fun H locs hP hD hS => ?_)
  refine lv_aload_n hX hB dX7_copyFrom_22 rfl (lv_at hl 0 rfl) ?_
  refine lv_aload_n hX hB dX7_copyFrom_23 rfl (lv_at hl 1 rfl) ?_
  refine fg_X7_25 C hP 2 rfl rfl dX7_copyFrom_24 ?_
  refine fp_X7_25 C hP hD hS 0 rfl rfl rfl (Nat.le_of_ble_eq_true rfl) (w' := [(t0, .inr (9, [.ref t1, .int w1b, .int w2b, .int w3])), (t1, .inl (cy 0, 4, .inl (va_cpy fpb fp 0 0 4))), (s0, .inr (9, [.ref s1, .int w1b, .int w2b, .int w3b])), (s1, .inl (cy 0, 4, .inl (fpb)))]) rfl dX7_copyFrom_27 (fun H locs hP hD hS => ?_)
  refine lv_aload_n hX hB dX7_copyFrom_30 rfl (lv_at hl 0 rfl) ?_
  refine lv_aload_n hX hB dX7_copyFrom_31 rfl (lv_at hl 1 rfl) ?_
  refine fg_X7_28 C hP 2 rfl rfl dX7_copyFrom_32 ?_
  refine fp_X7_28 C hP hD hS 0 rfl rfl rfl (Nat.le_of_ble_eq_true rfl) (w' := [(t0, .inr (9, [.ref t1, .int w1b, .int w2b, .int w3b])), (t1, .inl (cy 0, 4, .inl (va_cpy fpb fp 0 0 4))), (s0, .inr (9, [.ref s1, .int w1b, .int w2b, .int w3b])), (s1, .inl (cy 0, 4, .inl (fpb)))]) rfl dX7_copyFrom_35 (fun H locs hP hD hS => ?_)
  exact z_vret' (w1b, w2b, w3b, va_cpy fpb fp 0 0 4) (w' := q_X7_copyFrom cy t0 t1 s0 s1 w1b w2b w3b fpb) (by simp only [n_X7_copyFrom]) C hRT hP hD hS (Nat.le_of_ble_eq_true rfl) (Nat.le_of_ble_eq_true rfl) rfl dX7_copyFrom_38

def n_X7_addUp (w1 : Int32) (fp : Nat → Int32) : Int32 :=
  if (((0 + (fp 0)) + (fp 1)) + (fp 2)) + (fp 3) = w1 then
    1
  else
    0
def q_X7_addUp (cy : Nat → ClassId) (t0 : Nat) (t1 : Nat) (w1 : Int32) (w2 : Int32) (w3 : Int32) (fp : Nat → Int32) (o : Int32) : va_W := [(t0, .inr (9, [.ref t1, .int w1, .int w2, .int w3])), (t1, .inl (cy 0, 4, .inl (fp)))]
theorem b_X7_addUp (w1 : Int32) (fp : Nat → Int32) : (n_X7_addUp w1 fp) = 0 ∨ (n_X7_addUp w1 fp) = 1 := by
  simp only [n_X7_addUp]
  repeat (any_goals split)
  all_goals (first | exact Or.inl rfl | exact Or.inr rfl)
set_option maxHeartbeats 4000000 in
set_option maxRecDepth 100000 in
theorem c_X7_addUp (l : Launch) {E : zEn} (hE : zEok E) (D : zG) (cy : Nat → ClassId) (t0 t1 : Nat) (w1 : Int32) (w2 : Int32) (w3 : Int32) (fp : Nat → Int32)  (sz : Nat) : Met l yX7_addUp (zws yX7_addUp cX7_addUp 6 (some .boolean)) { frames := 0, cells := 0, slots := 0, locals := 0 } (zPre E D cy [.ref t0] [(t0, .inr (9, [.ref t1, .int w1, .int w2, .int w3])), (t1, .inl (cy 0, 4, .inl (fp)))] sz) (zQi D ((q_X7_addUp cy t0 t1 w1 w2 w3 fp) (n_X7_addUp w1 fp)) (va_A [(t0, .inr (9, [.ref t1, .int w1, .int w2, .int w3])), (t1, .inl (cy 0, 4, .inl (fp)))] sz) ((n_X7_addUp w1 fp))) 0 0 (va_A [(t0, .inr (9, [.ref t1, .int w1, .int w2, .int w3])), (t1, .inl (cy 0, 4, .inl (fp)))] sz) := by
  refine z_of (Qc := fun A => zQi D ((q_X7_addUp cy t0 t1 w1 w2 w3 fp) (n_X7_addUp w1 fp)) A ((n_X7_addUp w1 fp))) (by decide +kernel) (Nat.le_of_ble_eq_true rfl) rfl ?_
  intro pG eN sT mI below meth cO A ls C hRT hnm hA hP hD hS hE0 hl
  have hX := C.x
  have hB := C.b
  refine lv_iconst (v := 0) hX hB dX7_addUp_0 (by decide) ?_
  refine lv_istore_n (lv' := [(1, .int 0), (0, .ref t0)]) hX hB dX7_addUp_1 rfl hl (by decide) rfl (fun ls hl => ?_)
  refine lv_aload_n hX hB dX7_addUp_2 rfl (lv_at hl 1 rfl) ?_
  refine fg_X7_9 C hP 0 rfl rfl dX7_addUp_3 ?_
  refine lv_astore_n (lv' := [(2, .ref t1), (1, .int 0), (0, .ref t0)]) hX hB dX7_addUp_6 rfl hl (by decide) rfl (fun ls hl => ?_)
  refine lv_aload_n hX hB dX7_addUp_7 rfl (lv_at hl 0 rfl) ?_
  refine z_alen C hP 1 0 rfl rfl (v := 4) (show Int32.ofNat 4 = 4 from by decide) dX7_addUp_8 ?_
  refine lv_istore_n (lv' := [(3, .int 4), (2, .ref t1), (1, .int 0), (0, .ref t0)]) hX hB dX7_addUp_9 rfl hl (by decide) rfl (fun ls hl => ?_)
  refine lv_iconst (v := 0) hX hB dX7_addUp_10 (by decide) ?_
  refine lv_istore (lv' := [(4, .int 0), (3, .int 4), (2, .ref t1), (1, .int 0), (0, .ref t0)]) hX hB dX7_addUp_11 hl (by decide) rfl (fun ls hl => ?_)
  refine lv_iload hX hB dX7_addUp_13 (lv_at hl 0 rfl) ?_
  refine lv_iload_n hX hB dX7_addUp_15 rfl (lv_at hl 1 rfl) ?_
  refine lv_icmp_ge (tgt := 36) hX hB dX7_addUp_16 (by decide) (fun c => absurd c (by decide)) (fun _ => ?_)
  refine lv_aload_n hX hB dX7_addUp_19 rfl (lv_at hl 2 rfl) ?_
  refine lv_iload hX hB dX7_addUp_20 (lv_at hl 0 rfl) ?_
  refine z_iald C hP 1 rfl (k := 0) (zlit 0) (by decide) (by decide) (v := fp 0) rfl dX7_addUp_22 ?_
  refine lv_istore (lv' := [(5, .int (fp 0)), (4, .int 0), (3, .int 4), (2, .ref t1), (1, .int 0), (0, .ref t0)]) hX hB dX7_addUp_23 hl (by decide) rfl (fun ls hl => ?_)
  refine lv_iload_n hX hB dX7_addUp_25 rfl (lv_at hl 4 rfl) ?_
  refine lv_iload hX hB dX7_addUp_26 (lv_at hl 0 rfl) ?_
  refine z_iadd (v := 0 + (fp 0)) C dX7_addUp_28 rfl ?_
  refine lv_istore_n (lv' := [(1, .int (0 + (fp 0))), (5, .int (fp 0)), (4, .int 0), (3, .int 4), (2, .ref t1), (0, .ref t0)]) hX hB dX7_addUp_29 rfl hl (by decide) rfl (fun ls hl => ?_)
  refine lv_iinc (v := 1) (lv' := [(4, .int 1), (1, .int (0 + (fp 0))), (5, .int (fp 0)), (3, .int 4), (2, .ref t1), (0, .ref t0)]) hX hB dX7_addUp_30 hl (k := 2) rfl (by decide) (by decide) rfl (fun ls hl => ?_)
  refine lv_goto (tgt := 13) hX hB dX7_addUp_33 (by decide) ?_
  refine lv_iload hX hB dX7_addUp_13 (lv_at hl 0 rfl) ?_
  refine lv_iload_n hX hB dX7_addUp_15 rfl (lv_at hl 3 rfl) ?_
  refine lv_icmp_ge (tgt := 36) hX hB dX7_addUp_16 (by decide) (fun c => absurd c (by decide)) (fun _ => ?_)
  refine lv_aload_n hX hB dX7_addUp_19 rfl (lv_at hl 4 rfl) ?_
  refine lv_iload hX hB dX7_addUp_20 (lv_at hl 0 rfl) ?_
  refine z_iald C hP 1 rfl (k := 1) (zlit 1) (by decide) (by decide) (v := fp 1) rfl dX7_addUp_22 ?_
  refine lv_istore (lv' := [(5, .int (fp 1)), (4, .int 1), (1, .int (0 + (fp 0))), (3, .int 4), (2, .ref t1), (0, .ref t0)]) hX hB dX7_addUp_23 hl (by decide) rfl (fun ls hl => ?_)
  refine lv_iload_n hX hB dX7_addUp_25 rfl (lv_at hl 2 rfl) ?_
  refine lv_iload hX hB dX7_addUp_26 (lv_at hl 0 rfl) ?_
  refine z_iadd (v := (0 + (fp 0)) + (fp 1)) C dX7_addUp_28 rfl ?_
  refine lv_istore_n (lv' := [(1, .int ((0 + (fp 0)) + (fp 1))), (5, .int (fp 1)), (4, .int 1), (3, .int 4), (2, .ref t1), (0, .ref t0)]) hX hB dX7_addUp_29 rfl hl (by decide) rfl (fun ls hl => ?_)
  refine lv_iinc (v := 2) (lv' := [(4, .int 2), (1, .int ((0 + (fp 0)) + (fp 1))), (5, .int (fp 1)), (3, .int 4), (2, .ref t1), (0, .ref t0)]) hX hB dX7_addUp_30 hl (k := 2) rfl (by decide) (by decide) rfl (fun ls hl => ?_)
  refine lv_goto (tgt := 13) hX hB dX7_addUp_33 (by decide) ?_
  refine lv_iload hX hB dX7_addUp_13 (lv_at hl 0 rfl) ?_
  refine lv_iload_n hX hB dX7_addUp_15 rfl (lv_at hl 3 rfl) ?_
  refine lv_icmp_ge (tgt := 36) hX hB dX7_addUp_16 (by decide) (fun c => absurd c (by decide)) (fun _ => ?_)
  refine lv_aload_n hX hB dX7_addUp_19 rfl (lv_at hl 4 rfl) ?_
  refine lv_iload hX hB dX7_addUp_20 (lv_at hl 0 rfl) ?_
  refine z_iald C hP 1 rfl (k := 2) (zlit 2) (by decide) (by decide) (v := fp 2) rfl dX7_addUp_22 ?_
  refine lv_istore (lv' := [(5, .int (fp 2)), (4, .int 2), (1, .int ((0 + (fp 0)) + (fp 1))), (3, .int 4), (2, .ref t1), (0, .ref t0)]) hX hB dX7_addUp_23 hl (by decide) rfl (fun ls hl => ?_)
  refine lv_iload_n hX hB dX7_addUp_25 rfl (lv_at hl 2 rfl) ?_
  refine lv_iload hX hB dX7_addUp_26 (lv_at hl 0 rfl) ?_
  refine z_iadd (v := ((0 + (fp 0)) + (fp 1)) + (fp 2)) C dX7_addUp_28 rfl ?_
  refine lv_istore_n (lv' := [(1, .int (((0 + (fp 0)) + (fp 1)) + (fp 2))), (5, .int (fp 2)), (4, .int 2), (3, .int 4), (2, .ref t1), (0, .ref t0)]) hX hB dX7_addUp_29 rfl hl (by decide) rfl (fun ls hl => ?_)
  refine lv_iinc (v := 3) (lv' := [(4, .int 3), (1, .int (((0 + (fp 0)) + (fp 1)) + (fp 2))), (5, .int (fp 2)), (3, .int 4), (2, .ref t1), (0, .ref t0)]) hX hB dX7_addUp_30 hl (k := 2) rfl (by decide) (by decide) rfl (fun ls hl => ?_)
  refine lv_goto (tgt := 13) hX hB dX7_addUp_33 (by decide) ?_
  refine lv_iload hX hB dX7_addUp_13 (lv_at hl 0 rfl) ?_
  refine lv_iload_n hX hB dX7_addUp_15 rfl (lv_at hl 3 rfl) ?_
  refine lv_icmp_ge (tgt := 36) hX hB dX7_addUp_16 (by decide) (fun c => absurd c (by decide)) (fun _ => ?_)
  refine lv_aload_n hX hB dX7_addUp_19 rfl (lv_at hl 4 rfl) ?_
  refine lv_iload hX hB dX7_addUp_20 (lv_at hl 0 rfl) ?_
  refine z_iald C hP 1 rfl (k := 3) (zlit 3) (by decide) (by decide) (v := fp 3) rfl dX7_addUp_22 ?_
  refine lv_istore (lv' := [(5, .int (fp 3)), (4, .int 3), (1, .int (((0 + (fp 0)) + (fp 1)) + (fp 2))), (3, .int 4), (2, .ref t1), (0, .ref t0)]) hX hB dX7_addUp_23 hl (by decide) rfl (fun ls hl => ?_)
  refine lv_iload_n hX hB dX7_addUp_25 rfl (lv_at hl 2 rfl) ?_
  refine lv_iload hX hB dX7_addUp_26 (lv_at hl 0 rfl) ?_
  refine z_iadd (v := (((0 + (fp 0)) + (fp 1)) + (fp 2)) + (fp 3)) C dX7_addUp_28 rfl ?_
  refine lv_istore_n (lv' := [(1, .int ((((0 + (fp 0)) + (fp 1)) + (fp 2)) + (fp 3))), (5, .int (fp 3)), (4, .int 3), (3, .int 4), (2, .ref t1), (0, .ref t0)]) hX hB dX7_addUp_29 rfl hl (by decide) rfl (fun ls hl => ?_)
  refine lv_iinc (v := 4) (lv' := [(4, .int 4), (1, .int ((((0 + (fp 0)) + (fp 1)) + (fp 2)) + (fp 3))), (5, .int (fp 3)), (3, .int 4), (2, .ref t1), (0, .ref t0)]) hX hB dX7_addUp_30 hl (k := 2) rfl (by decide) (by decide) rfl (fun ls hl => ?_)
  refine lv_goto (tgt := 13) hX hB dX7_addUp_33 (by decide) ?_
  refine lv_iload hX hB dX7_addUp_13 (lv_at hl 0 rfl) ?_
  refine lv_iload_n hX hB dX7_addUp_15 rfl (lv_at hl 3 rfl) ?_
  refine lv_icmp_ge (tgt := 36) hX hB dX7_addUp_16 (by decide) (fun _ => ?_) (fun c => absurd (by decide) c)
  refine lv_iload_n hX hB dX7_addUp_36 rfl (lv_at hl 1 rfl) ?_
  refine lv_aload_n hX hB dX7_addUp_37 rfl (lv_at hl 5 rfl) ?_
  refine fg_X7_21 C hP 0 rfl rfl dX7_addUp_38 ?_
  refine lv_icmp_ne (tgt := 48) hX hB dX7_addUp_41 (by decide) (fun c_1 => ?_) (fun c_1 => ?_)
  · refine lv_iconst (v := 0) hX hB dX7_addUp_48 (by decide) ?_
    exact z_zret' 0 (w' := q_X7_addUp cy t0 t1 w1 w2 w3 fp) (r0 := (fun (o : Int32) => o)) (by simp only [n_X7_addUp, if_neg c_1]) C hRT (zb01 (Or.inl rfl)) hP hD hS (Nat.le_of_ble_eq_true rfl) (Nat.le_of_ble_eq_true rfl) rfl rfl dX7_addUp_49
  · refine lv_iconst (v := 1) hX hB dX7_addUp_44 (by decide) ?_
    refine lv_goto (tgt := 49) hX hB dX7_addUp_45 (by decide) ?_
    exact z_zret' 1 (w' := q_X7_addUp cy t0 t1 w1 w2 w3 fp) (r0 := (fun (o : Int32) => o)) (by simp only [n_X7_addUp, if_pos c_1]) C hRT (zb01 (Or.inr rfl)) hP hD hS (Nat.le_of_ble_eq_true rfl) (Nat.le_of_ble_eq_true rfl) rfl rfl dX7_addUp_49
