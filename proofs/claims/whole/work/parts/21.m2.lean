section M2
def n_X9_copy_L1 (f : Nat → Int32) (i : Nat) (j : Nat) : Nat → (Nat → Int32) → Nat → Nat → Int32
  | 0, f2, _ => f2
  | n_1 + 1, f2, k =>
    if 64 ≤ nI k then
      f2
    else
      n_X9_copy_L1 f i j n_1 (upd f2 (j + k) (f (i + k))) (k + 1)
def n_X9_copy (f : Nat → Int32) (f1 : Nat → Int32) (i : Nat) (j : Nat) : Nat → Int32 :=
  n_X9_copy_L1 f i j 65 f1 0
def q_X9_copy (cy : Nat → ClassId) (a0 : Nat) (a1 : Nat) (n0 : Nat) (n1 : Nat) (f : Nat → Int32) (o : Nat → Int32) : va_W := [(a0, .inl (cy 0, n0, .inl (f))), (a1, .inl (cy 0, n1, .inl (o)))]
set_option maxHeartbeats 4000000 in
set_option maxRecDepth 100000 in
theorem c_X9_copy (l : Launch) {E : zEn} (hE : zEok E) (D : zG) (cy : Nat → ClassId) (a0 a1 : Nat) (n0 : Nat) (n1 : Nat) (f : Nat → Int32) (f1 : Nat → Int32) (x : Int32) (i : Nat) (y : Int32) (j : Nat) (hx : zi x i) (hy : zi y j) (h0 : i + 64 ≤ n0) (h1 : j + 64 ≤ n1) (h2 : n0 ≤ 512) (h3 : n1 ≤ 512) (sz : Nat) : Met l yX9_copy (zws yX9_copy cX9_copy 5 none) { frames := 0, cells := 0, slots := 0, locals := 0 } (zPre E D cy [.ref a0, .int x, .ref a1, .int y] [(a0, .inl (cy 0, n0, .inl (f))), (a1, .inl (cy 0, n1, .inl (f1)))] sz) (zQv D ((q_X9_copy cy a0 a1 n0 n1 f) (n_X9_copy f f1 i j)) (va_A [(a0, .inl (cy 0, n0, .inl (f))), (a1, .inl (cy 0, n1, .inl (f1)))] sz)) 0 0 (va_A [(a0, .inl (cy 0, n0, .inl (f))), (a1, .inl (cy 0, n1, .inl (f1)))] sz) := by
  refine z_of (Qc := fun A => zQv D ((q_X9_copy cy a0 a1 n0 n1 f) (n_X9_copy f f1 i j)) A) (by decide +kernel) (Nat.le_of_ble_eq_true rfl) rfl ?_
  intro pG eN sT mI below meth cO A ls C hRT hnm hA hP hD hS hE0 hl
  have hX := C.x
  have hB := C.b
  refine lv_iconst (v := 0) hX hB dX9_copy_0 (by decide) ?_
  refine lv_istore (lv' := [(4, .int 0), (0, .ref a0), (1, .int x), (2, .ref a1), (3, .int y)]) hX hB dX9_copy_1 hl (by decide) rfl (fun ls hl => ?_)
  have loop_0 : ∀ (n_1 : Nat) (f2 : Nat → Int32) (k : Nat), (k ≤ 64) → 64 - k < n_1 → n_X9_copy_L1 f i j n_1 f2 k = n_X9_copy f f1 i j → ∀ (H : Heap) (locs : List Loc), va_P D vwCl [(a0, .inl (cy 0, n0, .inl (f))), (a1, .inl (cy 0, n1, .inl (f2)))] H → va_D A [(a0, .inl (cy 0, n0, .inl (f))), (a1, .inl (cy 0, n1, .inl (f2)))] → va_S A sT.heap H locs → ∀ (ls : Array Slot), lv_has ls 5 [(4, .int (nI k)), (0, .ref a0), (1, .int x), (2, .ref a1), (3, .int y)] → W pG l eN { frames := 0, cells := 0, slots := 0, locals := 0 } sT mI ([.ref a0, .int x, .ref a1, .int y] : List Value).toArray below meth cO H locs 0 0 (MQ below (zQv D ((q_X9_copy cy a0 a1 n0 n1 f) (n_X9_copy f f1 i j)) A) ([.ref a0, .int x, .ref a1, .int y] : List Value).toArray sT 0 0 A) (F0 mI 3 ls []) := by
    intro n_1
    induction n_1 with
    | zero =>
      intro f2 k hb_0_0 hm_0
      exact absurd hm_0 (by omega)
    | succ n_1 ih_2 =>
      intro f2 k hb_0_0 hm_0 hF_0 H locs hP hD hS ls hl
      refine lv_iload hX hB dX9_copy_3 (lv_at hl 0 rfl) ?_
      refine lv_bipush (v := 64) hX hB dX9_copy_5 (by decide) ?_
      refine lv_icmp_ge (tgt := 28) hX hB dX9_copy_7 (by decide) (fun c_3 => ?_) (fun c_3 => ?_)
      · have c_3n : 64 ≤ k := (zi_le_iff (zlit 64) (zi_i k) (by decide) (by omega)).mp c_3
        exact z_vret' f2 (w' := q_X9_copy cy a0 a1 n0 n1 f) (hF_0.symm.trans (by simp only [n_X9_copy_L1, if_pos c_3])) C hRT hP hD hS (Nat.le_of_ble_eq_true rfl) (Nat.le_of_ble_eq_true rfl) rfl dX9_copy_28
      · have c_3n : ¬ (64 ≤ k) := fun z => c_3 ((zi_le_iff (zlit 64) (zi_i k) (by decide) (by omega)).mpr z)
        refine lv_aload_n hX hB dX9_copy_10 rfl (lv_at hl 3 rfl) ?_
        refine lv_iload_n hX hB dX9_copy_11 rfl (lv_at hl 4 rfl) ?_
        refine lv_iload hX hB dX9_copy_12 (lv_at hl 0 rfl) ?_
        refine z_iadd (v := nI (j + k)) C dX9_copy_14 (zi_add hy (zi_i k)) ?_
        refine lv_aload_n hX hB dX9_copy_15 rfl (lv_at hl 1 rfl) ?_
        refine lv_iload_n hX hB dX9_copy_16 rfl (lv_at hl 2 rfl) ?_
        refine lv_iload hX hB dX9_copy_17 (lv_at hl 0 rfl) ?_
        refine z_iadd (v := nI (i + k)) C dX9_copy_19 (zi_add hx (zi_i k)) ?_
        refine z_iald C hP 0 rfl (k := i + k) (zi_i (i + k)) (by omega) (by omega) (v := f (i + k)) rfl dX9_copy_20 ?_
        refine z_iast C hP hD hS 1 rfl (k := j + k) (zi_i (j + k)) (by omega) (by omega) (w' := [(a0, .inl (cy 0, n0, .inl (f))), (a1, .inl (cy 0, n1, .inl (upd f2 (j + k) (f (i + k)))))]) rfl dX9_copy_21 (fun H locs hP hD hS => ?_)
        refine lv_iinc (v := nI (k + 1)) (lv' := [(4, .int (nI (k + 1))), (0, .ref a0), (1, .int x), (2, .ref a1), (3, .int y)]) hX hB dX9_copy_22 hl (k := 0) rfl (zi_add (zi_i k) (zlit 1)) (by decide) rfl (fun ls hl => ?_)
        refine lv_goto (tgt := 3) hX hB dX9_copy_25 (by decide) ?_
        exact ih_2 (upd f2 (j + k) (f (i + k))) (k + 1) (by omega)  (by omega) (Eq.trans (by simp only [n_X9_copy_L1, if_neg c_3]) hF_0) _ _ hP hD hS ls (lv_sub hl [0, 1, 2, 3, 4] rfl)
  exact loop_0 65 f1 0 (by omega)  (by omega) (by simp only [n_X9_copy]) _ _ hP hD hS ls hl

def n_X9_copy_s_L1 (i : Nat) (j : Nat) : Nat → (Nat → Int32) → Nat → Nat → Int32
  | 0, f2, _ => f2
  | n_1 + 1, f2, k =>
    if 64 ≤ nI k then
      f2
    else
      n_X9_copy_s_L1 i j n_1 (upd f2 (j + k) (f2 (i + k))) (k + 1)
def n_X9_copy_s (f : Nat → Int32) (i : Nat) (j : Nat) : Nat → Int32 :=
  n_X9_copy_s_L1 i j 65 f 0
def q_X9_copy_s (cy : Nat → ClassId) (a0 : Nat) (n0 : Nat) (o : Nat → Int32) : va_W := [(a0, .inl (cy 0, n0, .inl (o)))]
set_option maxHeartbeats 4000000 in
set_option maxRecDepth 100000 in
theorem c_X9_copy_s (l : Launch) {E : zEn} (hE : zEok E) (D : zG) (cy : Nat → ClassId) (a0 : Nat) (n0 : Nat) (f : Nat → Int32) (x : Int32) (i : Nat) (y : Int32) (j : Nat) (hx : zi x i) (hy : zi y j) (h0 : i + 64 ≤ n0) (h1 : j + 64 ≤ n0) (h2 : n0 ≤ 512) (sz : Nat) : Met l yX9_copy (zws yX9_copy cX9_copy 5 none) { frames := 0, cells := 0, slots := 0, locals := 0 } (zPre E D cy [.ref a0, .int x, .ref a0, .int y] [(a0, .inl (cy 0, n0, .inl (f)))] sz) (zQv D ((q_X9_copy_s cy a0 n0) (n_X9_copy_s f i j)) (va_A [(a0, .inl (cy 0, n0, .inl (f)))] sz)) 0 0 (va_A [(a0, .inl (cy 0, n0, .inl (f)))] sz) := by
  refine z_of (Qc := fun A => zQv D ((q_X9_copy_s cy a0 n0) (n_X9_copy_s f i j)) A) (by decide +kernel) (Nat.le_of_ble_eq_true rfl) rfl ?_
  intro pG eN sT mI below meth cO A ls C hRT hnm hA hP hD hS hE0 hl
  have hX := C.x
  have hB := C.b
  refine lv_iconst (v := 0) hX hB dX9_copy_0 (by decide) ?_
  refine lv_istore (lv' := [(4, .int 0), (0, .ref a0), (1, .int x), (2, .ref a0), (3, .int y)]) hX hB dX9_copy_1 hl (by decide) rfl (fun ls hl => ?_)
  have loop_0 : ∀ (n_1 : Nat) (f2 : Nat → Int32) (k : Nat), (k ≤ 64) → 64 - k < n_1 → n_X9_copy_s_L1 i j n_1 f2 k = n_X9_copy_s f i j → ∀ (H : Heap) (locs : List Loc), va_P D vwCl [(a0, .inl (cy 0, n0, .inl (f2)))] H → va_D A [(a0, .inl (cy 0, n0, .inl (f2)))] → va_S A sT.heap H locs → ∀ (ls : Array Slot), lv_has ls 5 [(4, .int (nI k)), (0, .ref a0), (1, .int x), (2, .ref a0), (3, .int y)] → W pG l eN { frames := 0, cells := 0, slots := 0, locals := 0 } sT mI ([.ref a0, .int x, .ref a0, .int y] : List Value).toArray below meth cO H locs 0 0 (MQ below (zQv D ((q_X9_copy_s cy a0 n0) (n_X9_copy_s f i j)) A) ([.ref a0, .int x, .ref a0, .int y] : List Value).toArray sT 0 0 A) (F0 mI 3 ls []) := by
    intro n_1
    induction n_1 with
    | zero =>
      intro f2 k hb_0_0 hm_0
      exact absurd hm_0 (by omega)
    | succ n_1 ih_2 =>
      intro f2 k hb_0_0 hm_0 hF_0 H locs hP hD hS ls hl
      refine lv_iload hX hB dX9_copy_3 (lv_at hl 0 rfl) ?_
      refine lv_bipush (v := 64) hX hB dX9_copy_5 (by decide) ?_
      refine lv_icmp_ge (tgt := 28) hX hB dX9_copy_7 (by decide) (fun c_3 => ?_) (fun c_3 => ?_)
      · have c_3n : 64 ≤ k := (zi_le_iff (zlit 64) (zi_i k) (by decide) (by omega)).mp c_3
        exact z_vret' f2 (w' := q_X9_copy_s cy a0 n0) (hF_0.symm.trans (by simp only [n_X9_copy_s_L1, if_pos c_3])) C hRT hP hD hS (Nat.le_of_ble_eq_true rfl) (Nat.le_of_ble_eq_true rfl) rfl dX9_copy_28
      · have c_3n : ¬ (64 ≤ k) := fun z => c_3 ((zi_le_iff (zlit 64) (zi_i k) (by decide) (by omega)).mpr z)
        refine lv_aload_n hX hB dX9_copy_10 rfl (lv_at hl 3 rfl) ?_
        refine lv_iload_n hX hB dX9_copy_11 rfl (lv_at hl 4 rfl) ?_
        refine lv_iload hX hB dX9_copy_12 (lv_at hl 0 rfl) ?_
        refine z_iadd (v := nI (j + k)) C dX9_copy_14 (zi_add hy (zi_i k)) ?_
        refine lv_aload_n hX hB dX9_copy_15 rfl (lv_at hl 1 rfl) ?_
        refine lv_iload_n hX hB dX9_copy_16 rfl (lv_at hl 2 rfl) ?_
        refine lv_iload hX hB dX9_copy_17 (lv_at hl 0 rfl) ?_
        refine z_iadd (v := nI (i + k)) C dX9_copy_19 (zi_add hx (zi_i k)) ?_
        refine z_iald C hP 0 rfl (k := i + k) (zi_i (i + k)) (by omega) (by omega) (v := f2 (i + k)) rfl dX9_copy_20 ?_
        refine z_iast C hP hD hS 0 rfl (k := j + k) (zi_i (j + k)) (by omega) (by omega) (w' := [(a0, .inl (cy 0, n0, .inl (upd f2 (j + k) (f2 (i + k)))))]) rfl dX9_copy_21 (fun H locs hP hD hS => ?_)
        refine lv_iinc (v := nI (k + 1)) (lv' := [(4, .int (nI (k + 1))), (0, .ref a0), (1, .int x), (2, .ref a0), (3, .int y)]) hX hB dX9_copy_22 hl (k := 0) rfl (zi_add (zi_i k) (zlit 1)) (by decide) rfl (fun ls hl => ?_)
        refine lv_goto (tgt := 3) hX hB dX9_copy_25 (by decide) ?_
        exact ih_2 (upd f2 (j + k) (f2 (i + k))) (k + 1) (by omega)  (by omega) (Eq.trans (by simp only [n_X9_copy_s_L1, if_neg c_3]) hF_0) _ _ hP hD hS ls (lv_sub hl [0, 1, 2, 3, 4] rfl)
  exact loop_0 65 f 0 (by omega)  (by omega) (by simp only [n_X9_copy_s]) _ _ hP hD hS ls hl

def n_X9_begin (g : Nat → Int32) (gb : Nat → Int32) : Int32 × (Nat → Int32) :=
  let o_1 := n_X9_copy g gb 0 0
  (0, o_1)
def q_X9_begin (cy : Nat → ClassId) (h0 : Nat) (h1 : Nat) (h2 : Nat) (h3 : Nat) (h4 : Nat) (h5 : Nat) (h6 : Nat) (h7 : Nat) (h8 : Nat) (h9 : Nat) (v2 : Int32) (v3 : Int32) (v4 : Int32) (v5 : Int32) (v6 : Int32) (v7 : Int32) (v8 : Int32) (v9 : Int32) (v10 : Int32) (v11 : Int32) (g : Nat → Int32) (o : Int32 × (Nat → Int32)) : va_W := [(h0, .inr (11, [.ref h1, .ref h2, .ref h3, .ref h4, .ref h5, .int o.1, .int v2, .int v3, .int v4, .int v5, .ref h6, .int v6, .ref h7, .ref h8, .ref h9, .int v7, .int v8, .int v9, .int v10, .int v11])), (h1, .inl (cy 0, 64, .inl (g))), (h2, .inl (cy 0, 64, .inl (o.2)))]
set_option maxHeartbeats 4000000 in
set_option maxRecDepth 100000 in
theorem c_X9_begin (l : Launch) {E : zEn} (hE : zEok E) (D : zG) (cy : Nat → ClassId) (h0 h1 h2 h3 h4 h5 h6 h7 h8 h9 : Nat) (v1 : Int32) (v2 : Int32) (v3 : Int32) (v4 : Int32) (v5 : Int32) (v6 : Int32) (v7 : Int32) (v8 : Int32) (v9 : Int32) (v10 : Int32) (v11 : Int32) (g : Nat → Int32) (gb : Nat → Int32)  (sz : Nat) : Met l yX9_begin (zws yX9_begin cX9_begin 1 none) { frames := 1, cells := 0, slots := 0, locals := 24 } (zPre E D cy [.ref h0] [(h0, .inr (11, [.ref h1, .ref h2, .ref h3, .ref h4, .ref h5, .int v1, .int v2, .int v3, .int v4, .int v5, .ref h6, .int v6, .ref h7, .ref h8, .ref h9, .int v7, .int v8, .int v9, .int v10, .int v11])), (h1, .inl (cy 0, 64, .inl (g))), (h2, .inl (cy 0, 64, .inl (gb)))] sz) (zQv D ((q_X9_begin cy h0 h1 h2 h3 h4 h5 h6 h7 h8 h9 v2 v3 v4 v5 v6 v7 v8 v9 v10 v11 g) (n_X9_begin g gb)) (va_A [(h0, .inr (11, [.ref h1, .ref h2, .ref h3, .ref h4, .ref h5, .int v1, .int v2, .int v3, .int v4, .int v5, .ref h6, .int v6, .ref h7, .ref h8, .ref h9, .int v7, .int v8, .int v9, .int v10, .int v11])), (h1, .inl (cy 0, 64, .inl (g))), (h2, .inl (cy 0, 64, .inl (gb)))] sz)) 0 0 (va_A [(h0, .inr (11, [.ref h1, .ref h2, .ref h3, .ref h4, .ref h5, .int v1, .int v2, .int v3, .int v4, .int v5, .ref h6, .int v6, .ref h7, .ref h8, .ref h9, .int v7, .int v8, .int v9, .int v10, .int v11])), (h1, .inl (cy 0, 64, .inl (g))), (h2, .inl (cy 0, 64, .inl (gb)))] sz) := by
  refine z_of (Qc := fun A => zQv D ((q_X9_begin cy h0 h1 h2 h3 h4 h5 h6 h7 h8 h9 v2 v3 v4 v5 v6 v7 v8 v9 v10 v11 g) (n_X9_begin g gb)) A) (by decide +kernel) (Nat.le_of_ble_eq_true rfl) rfl ?_
  intro pG eN sT mI below meth cO A ls C hRT hnm hA hP hD hS hE0 hl
  have hX := C.x
  have hB := C.b
  refine lv_aload_n hX hB dX9_begin_0 rfl (lv_at hl 0 rfl) ?_
  refine lv_iconst (v := 0) hX hB dX9_begin_1 (by decide) ?_
  refine fp_X9_25 C hP hD hS 0 rfl rfl rfl (Nat.le_of_ble_eq_true rfl) (w' := [(h0, .inr (11, [.ref h1, .ref h2, .ref h3, .ref h4, .ref h5, .int 0, .int v2, .int v3, .int v4, .int v5, .ref h6, .int v6, .ref h7, .ref h8, .ref h9, .int v7, .int v8, .int v9, .int v10, .int v11])), (h1, .inl (cy 0, 64, .inl (g))), (h2, .inl (cy 0, 64, .inl (gb)))]) rfl dX9_begin_2 (fun H locs hP hD hS => ?_)
  refine lv_aload_n hX hB dX9_begin_5 rfl (lv_at hl 0 rfl) ?_
  refine fg_X9_7 C hP 0 rfl rfl dX9_begin_6 ?_
  refine lv_iconst (v := 0) hX hB dX9_begin_9 (by decide) ?_
  refine lv_aload_n hX hB dX9_begin_10 rfl (lv_at hl 0 rfl) ?_
  refine fg_X9_13 C hP 0 rfl rfl dX9_begin_11 ?_
  refine lv_iconst (v := 0) hX hB dX9_begin_14 (by decide) ?_
  refine z_callSv (isC := [1, 2]) (isR := [0]) (isO := [0, 1, 2]) (n_X9_copy g gb 0 0) (q_X9_copy cy h1 h2 64 64 g) (fun o_1 => [(h0, .inr (11, [.ref h1, .ref h2, .ref h3, .ref h4, .ref h5, .int 0, .int v2, .int v3, .int v4, .int v5, .ref h6, .int v6, .ref h7, .ref h8, .ref h9, .int v7, .int v8, .int v9, .int v10, .int v11])), (h1, .inl (cy 0, 64, .inl (g))), (h2, .inl (cy 0, 64, .inl (o_1)))]) (c_X9_copy l hE D cy h1 h2 64 64 g gb 0 0 0 0 (zlit 0) (zlit 0) (by omega) (by omega) (by omega) (by omega)) hE C zs_X9_72 ⟨Nat.le_of_ble_eq_true rfl, Nat.le_of_ble_eq_true rfl⟩ hP hD hS hA hE0 ⟨rfl, rfl, rfl, by decide, rfl, rfl, rfl⟩ rfl hl.1 (Nat.le_of_ble_eq_true rfl) rfl dX9_begin_15 ⟨Nat.le_of_ble_eq_true rfl, Nat.le_of_ble_eq_true rfl⟩ (fun o_1 H locs eo_1 hP hD hS => ?_)
  exact z_vret' (0, o_1) (w' := q_X9_begin cy h0 h1 h2 h3 h4 h5 h6 h7 h8 h9 v2 v3 v4 v5 v6 v7 v8 v9 v10 v11 g) (by simp only [n_X9_begin, ← eo_1]) C hRT hP hD hS (Nat.le_of_ble_eq_true rfl) (Nat.le_of_ble_eq_true rfl) rfl dX9_begin_18

def n_X9_commit (v2 : Int32) (gb : Nat → Int32) (gh : Nat → Int32) (x : Int32) : Int32 × Int32 × (Nat → Int32) :=
  if v2 = 8 then
    let o_3 := n_X9_copy_s gh 64 0
    let o_4 := n_X9_copy_s o_3 128 64
    let o_5 := n_X9_copy_s o_4 192 128
    let o_6 := n_X9_copy_s o_5 256 192
    let o_7 := n_X9_copy_s o_6 320 256
    let o_8 := n_X9_copy_s o_7 384 320
    let o_9 := n_X9_copy_s o_8 448 384
    let o_10 := n_X9_copy gb o_9 0 (64 * ((zn v2) - 1))
    (x, nI (((zn v2) - 1) + 1), o_10)
  else
    let o_2 := n_X9_copy gb gh 0 (64 * (zn v2))
    (x, nI ((zn v2) + 1), o_2)
def q_X9_commit (cy : Nat → ClassId) (h0 : Nat) (h1 : Nat) (h2 : Nat) (h3 : Nat) (h4 : Nat) (h5 : Nat) (h6 : Nat) (h7 : Nat) (h8 : Nat) (h9 : Nat) (v1 : Int32) (v3 : Int32) (v4 : Int32) (v5 : Int32) (v6 : Int32) (v7 : Int32) (v8 : Int32) (v9 : Int32) (v10 : Int32) (v11 : Int32) (gb : Nat → Int32) (o : Int32 × Int32 × (Nat → Int32)) : va_W := [(h0, .inr (11, [.ref h1, .ref h2, .ref h3, .ref h4, .ref h5, .int v1, .int o.2.1, .int v3, .int v4, .int v5, .ref h6, .int v6, .ref h7, .ref h8, .ref h9, .int v7, .int v8, .int v9, .int v10, .int v11])), (h2, .inl (cy 0, 64, .inl (gb))), (h5, .inl (cy 0, 512, .inl (o.2.2)))]
set_option maxHeartbeats 4000000 in
set_option maxRecDepth 100000 in
theorem c_X9_commit (l : Launch) {E : zEn} (hE : zEok E) (D : zG) (cy : Nat → ClassId) (h0 h1 h2 h3 h4 h5 h6 h7 h8 h9 : Nat) (v1 : Int32) (v2 : Int32) (v3 : Int32) (v4 : Int32) (v5 : Int32) (v6 : Int32) (v7 : Int32) (v8 : Int32) (v9 : Int32) (v10 : Int32) (v11 : Int32) (gb : Nat → Int32) (gh : Nat → Int32) (x : Int32) (hd : zle v2 8) (sz : Nat) : Met l yX9_commit (zws yX9_commit cX9_commit 3 (some .int)) { frames := 1, cells := 0, slots := 0, locals := 24 } (zPre E D cy [.ref h0, .int x] [(h0, .inr (11, [.ref h1, .ref h2, .ref h3, .ref h4, .ref h5, .int v1, .int v2, .int v3, .int v4, .int v5, .ref h6, .int v6, .ref h7, .ref h8, .ref h9, .int v7, .int v8, .int v9, .int v10, .int v11])), (h2, .inl (cy 0, 64, .inl (gb))), (h5, .inl (cy 0, 512, .inl (gh)))] sz) (zQi D ((q_X9_commit cy h0 h1 h2 h3 h4 h5 h6 h7 h8 h9 v1 v3 v4 v5 v6 v7 v8 v9 v10 v11 gb) (n_X9_commit v2 gb gh x)) (va_A [(h0, .inr (11, [.ref h1, .ref h2, .ref h3, .ref h4, .ref h5, .int v1, .int v2, .int v3, .int v4, .int v5, .ref h6, .int v6, .ref h7, .ref h8, .ref h9, .int v7, .int v8, .int v9, .int v10, .int v11])), (h2, .inl (cy 0, 64, .inl (gb))), (h5, .inl (cy 0, 512, .inl (gh)))] sz) ((n_X9_commit v2 gb gh x).1)) 0 0 (va_A [(h0, .inr (11, [.ref h1, .ref h2, .ref h3, .ref h4, .ref h5, .int v1, .int v2, .int v3, .int v4, .int v5, .ref h6, .int v6, .ref h7, .ref h8, .ref h9, .int v7, .int v8, .int v9, .int v10, .int v11])), (h2, .inl (cy 0, 64, .inl (gb))), (h5, .inl (cy 0, 512, .inl (gh)))] sz) := by
  refine z_of (Qc := fun A => zQi D ((q_X9_commit cy h0 h1 h2 h3 h4 h5 h6 h7 h8 h9 v1 v3 v4 v5 v6 v7 v8 v9 v10 v11 gb) (n_X9_commit v2 gb gh x)) A ((n_X9_commit v2 gb gh x).1)) (by decide +kernel) (Nat.le_of_ble_eq_true rfl) rfl ?_
  intro pG eN sT mI below meth cO A ls C hRT hnm hA hP hD hS hE0 hl
  have hX := C.x
  have hB := C.b
  have hd_ := hd.2
  refine lv_aload_n hX hB dX9_commit_0 rfl (lv_at hl 0 rfl) ?_
  refine fg_X9_29 C hP 0 rfl rfl dX9_commit_1 ?_
  refine lv_bipush (v := 8) hX hB dX9_commit_4 (by decide) ?_
  refine lv_icmp_ne (tgt := 54) hX hB dX9_commit_6 (by decide) (fun c_1 => ?_) (fun c_1 => ?_)
  · have c_1n : ¬ (zn v2 = 8) := fun z => c_1 ((zi_eq_iff hd.1 (zlit 8) (by omega) (by decide)).mpr z)
    refine lv_aload_n hX hB dX9_commit_54 rfl (lv_at hl 0 rfl) ?_
    refine fg_X9_13 C hP 0 rfl rfl dX9_commit_55 ?_
    refine lv_iconst (v := 0) hX hB dX9_commit_58 (by decide) ?_
    refine lv_aload_n hX hB dX9_commit_59 rfl (lv_at hl 0 rfl) ?_
    refine fg_X9_22 C hP 0 rfl rfl dX9_commit_60 ?_
    refine lv_bipush (v := 64) hX hB dX9_commit_63 (by decide) ?_
    refine lv_aload_n hX hB dX9_commit_65 rfl (lv_at hl 0 rfl) ?_
    refine fg_X9_29 C hP 0 rfl rfl dX9_commit_66 ?_
    refine z_imul (v := nI (64 * (zn v2))) C dX9_commit_69 (zi_mul (zlit 64) hd.1) ?_
    refine z_callSv (isC := [1, 2]) (isR := [0]) (isO := [0, 1, 2]) (n_X9_copy gb gh 0 (64 * (zn v2))) (q_X9_copy cy h2 h5 64 512 gb) (fun o_2 => [(h0, .inr (11, [.ref h1, .ref h2, .ref h3, .ref h4, .ref h5, .int v1, .int v2, .int v3, .int v4, .int v5, .ref h6, .int v6, .ref h7, .ref h8, .ref h9, .int v7, .int v8, .int v9, .int v10, .int v11])), (h2, .inl (cy 0, 64, .inl (gb))), (h5, .inl (cy 0, 512, .inl (o_2)))]) (c_X9_copy l hE D cy h2 h5 64 512 gb gh 0 0 (nI (64 * (zn v2))) (64 * (zn v2)) (zlit 0) (zi_i (64 * (zn v2))) (by omega) (by omega) (by omega) (by omega)) hE C zs_X9_72 ⟨Nat.le_of_ble_eq_true rfl, Nat.le_of_ble_eq_true rfl⟩ hP hD hS hA hE0 ⟨rfl, rfl, rfl, by decide, rfl, rfl, rfl⟩ rfl hl.1 (Nat.le_of_ble_eq_true rfl) rfl dX9_commit_70 ⟨Nat.le_of_ble_eq_true rfl, Nat.le_of_ble_eq_true rfl⟩ (fun o_2 H locs eo_2 hP hD hS => ?_)
    refine lv_aload_n hX hB dX9_commit_73 rfl (lv_at hl 0 rfl) ?_
    refine lv_dup hX hB dX9_commit_74 rfl ?_
    refine fg_X9_29 C hP 0 rfl rfl dX9_commit_75 ?_
    refine lv_iconst (v := 1) hX hB dX9_commit_78 (by decide) ?_
    refine z_iadd (v := nI ((zn v2) + 1)) C dX9_commit_79 (zi_add hd.1 (zlit 1)) ?_
    refine fp_X9_29 C hP hD hS 0 rfl rfl rfl (Nat.le_of_ble_eq_true rfl) (w' := [(h0, .inr (11, [.ref h1, .ref h2, .ref h3, .ref h4, .ref h5, .int v1, .int (nI ((zn v2) + 1)), .int v3, .int v4, .int v5, .ref h6, .int v6, .ref h7, .ref h8, .ref h9, .int v7, .int v8, .int v9, .int v10, .int v11])), (h2, .inl (cy 0, 64, .inl (gb))), (h5, .inl (cy 0, 512, .inl (o_2)))]) rfl dX9_commit_80 (fun H locs hP hD hS => ?_)
    refine lv_iload_n hX hB dX9_commit_83 rfl (lv_at hl 1 rfl) ?_
    exact z_iret' (x, nI ((zn v2) + 1), o_2) (w' := q_X9_commit cy h0 h1 h2 h3 h4 h5 h6 h7 h8 h9 v1 v3 v4 v5 v6 v7 v8 v9 v10 v11 gb) (r0 := (fun (o : Int32 × Int32 × (Nat → Int32)) => o.1)) (by simp only [n_X9_commit, if_neg c_1, ← eo_2]) C hRT hP hD hS (Nat.le_of_ble_eq_true rfl) (Nat.le_of_ble_eq_true rfl) rfl rfl dX9_commit_84
  · have c_1n : zn v2 = 8 := (zi_eq_iff hd.1 (zlit 8) (by omega) (by decide)).mp c_1
    refine lv_iconst (v := 1) hX hB dX9_commit_9 (by decide) ?_
    refine lv_istore_n (lv' := [(2, .int 1), (0, .ref h0), (1, .int x)]) hX hB dX9_commit_10 rfl hl (by decide) rfl (fun ls hl => ?_)
    refine lv_iload_n hX hB dX9_commit_11 rfl (lv_at hl 0 rfl) ?_
    refine lv_bipush (v := 8) hX hB dX9_commit_12 (by decide) ?_
    refine lv_icmp_ge (tgt := 44) hX hB dX9_commit_14 (by decide) (fun c => absurd c (by decide)) (fun _ => ?_)
    refine lv_aload_n hX hB dX9_commit_17 rfl (lv_at hl 1 rfl) ?_
    refine fg_X9_22 C hP 0 rfl rfl dX9_commit_18 ?_
    refine lv_bipush (v := 64) hX hB dX9_commit_21 (by decide) ?_
    refine lv_iload_n hX hB dX9_commit_23 rfl (lv_at hl 0 rfl) ?_
    refine z_imul (v := 64) C dX9_commit_24 (by decide) ?_
    refine lv_aload_n hX hB dX9_commit_25 rfl (lv_at hl 1 rfl) ?_
    refine fg_X9_22 C hP 0 rfl rfl dX9_commit_26 ?_
    refine lv_bipush (v := 64) hX hB dX9_commit_29 (by decide) ?_
    refine lv_iload_n hX hB dX9_commit_31 rfl (lv_at hl 0 rfl) ?_
    refine lv_iconst (v := 1) hX hB dX9_commit_32 (by decide) ?_
    refine z_isub (v := 0) C dX9_commit_33 (by decide) ?_
    refine z_imul (v := 0) C dX9_commit_34 (by decide) ?_
    refine z_callSv (isC := [2]) (isR := [0, 1]) (isO := [0, 1, 2]) (n_X9_copy_s gh 64 0) (q_X9_copy_s cy h5 512) (fun o_3 => [(h0, .inr (11, [.ref h1, .ref h2, .ref h3, .ref h4, .ref h5, .int v1, .int v2, .int v3, .int v4, .int v5, .ref h6, .int v6, .ref h7, .ref h8, .ref h9, .int v7, .int v8, .int v9, .int v10, .int v11])), (h2, .inl (cy 0, 64, .inl (gb))), (h5, .inl (cy 0, 512, .inl (o_3)))]) (c_X9_copy_s l hE D cy h5 512 gh 64 64 0 0 (zlit 64) (zlit 0) (by omega) (by omega) (by omega)) hE C zs_X9_72 ⟨Nat.le_of_ble_eq_true rfl, Nat.le_of_ble_eq_true rfl⟩ hP hD hS hA hE0 ⟨rfl, rfl, rfl, by decide, rfl, rfl, rfl⟩ rfl hl.1 (Nat.le_of_ble_eq_true rfl) rfl dX9_commit_35 ⟨Nat.le_of_ble_eq_true rfl, Nat.le_of_ble_eq_true rfl⟩ (fun o_3 H locs eo_3 hP hD hS => ?_)
    refine lv_iinc (v := 2) (lv' := [(2, .int 2), (0, .ref h0), (1, .int x)]) hX hB dX9_commit_38 hl (k := 0) rfl (by decide) (by decide) rfl (fun ls hl => ?_)
    refine lv_goto (tgt := 11) hX hB dX9_commit_41 (by decide) ?_
    refine lv_iload_n hX hB dX9_commit_11 rfl (lv_at hl 0 rfl) ?_
    refine lv_bipush (v := 8) hX hB dX9_commit_12 (by decide) ?_
    refine lv_icmp_ge (tgt := 44) hX hB dX9_commit_14 (by decide) (fun c => absurd c (by decide)) (fun _ => ?_)
    refine lv_aload_n hX hB dX9_commit_17 rfl (lv_at hl 1 rfl) ?_
    refine fg_X9_22 C hP 0 rfl rfl dX9_commit_18 ?_
    refine lv_bipush (v := 64) hX hB dX9_commit_21 (by decide) ?_
    refine lv_iload_n hX hB dX9_commit_23 rfl (lv_at hl 0 rfl) ?_
    refine z_imul (v := 128) C dX9_commit_24 (by decide) ?_
    refine lv_aload_n hX hB dX9_commit_25 rfl (lv_at hl 1 rfl) ?_
    refine fg_X9_22 C hP 0 rfl rfl dX9_commit_26 ?_
    refine lv_bipush (v := 64) hX hB dX9_commit_29 (by decide) ?_
    refine lv_iload_n hX hB dX9_commit_31 rfl (lv_at hl 0 rfl) ?_
    refine lv_iconst (v := 1) hX hB dX9_commit_32 (by decide) ?_
    refine z_isub (v := 1) C dX9_commit_33 (by decide) ?_
    refine z_imul (v := 64) C dX9_commit_34 (by decide) ?_
    refine z_callSv (isC := [2]) (isR := [0, 1]) (isO := [0, 1, 2]) (n_X9_copy_s o_3 128 64) (q_X9_copy_s cy h5 512) (fun o_4 => [(h0, .inr (11, [.ref h1, .ref h2, .ref h3, .ref h4, .ref h5, .int v1, .int v2, .int v3, .int v4, .int v5, .ref h6, .int v6, .ref h7, .ref h8, .ref h9, .int v7, .int v8, .int v9, .int v10, .int v11])), (h2, .inl (cy 0, 64, .inl (gb))), (h5, .inl (cy 0, 512, .inl (o_4)))]) (c_X9_copy_s l hE D cy h5 512 o_3 128 128 64 64 (zlit 128) (zlit 64) (by omega) (by omega) (by omega)) hE C zs_X9_72 ⟨Nat.le_of_ble_eq_true rfl, Nat.le_of_ble_eq_true rfl⟩ hP hD hS hA hE0 ⟨rfl, rfl, rfl, by decide, rfl, rfl, rfl⟩ rfl hl.1 (Nat.le_of_ble_eq_true rfl) rfl dX9_commit_35 ⟨Nat.le_of_ble_eq_true rfl, Nat.le_of_ble_eq_true rfl⟩ (fun o_4 H locs eo_4 hP hD hS => ?_)
    refine lv_iinc (v := 3) (lv' := [(2, .int 3), (0, .ref h0), (1, .int x)]) hX hB dX9_commit_38 hl (k := 0) rfl (by decide) (by decide) rfl (fun ls hl => ?_)
    refine lv_goto (tgt := 11) hX hB dX9_commit_41 (by decide) ?_
    refine lv_iload_n hX hB dX9_commit_11 rfl (lv_at hl 0 rfl) ?_
    refine lv_bipush (v := 8) hX hB dX9_commit_12 (by decide) ?_
    refine lv_icmp_ge (tgt := 44) hX hB dX9_commit_14 (by decide) (fun c => absurd c (by decide)) (fun _ => ?_)
    refine lv_aload_n hX hB dX9_commit_17 rfl (lv_at hl 1 rfl) ?_
    refine fg_X9_22 C hP 0 rfl rfl dX9_commit_18 ?_
    refine lv_bipush (v := 64) hX hB dX9_commit_21 (by decide) ?_
    refine lv_iload_n hX hB dX9_commit_23 rfl (lv_at hl 0 rfl) ?_
    refine z_imul (v := 192) C dX9_commit_24 (by decide) ?_
    refine lv_aload_n hX hB dX9_commit_25 rfl (lv_at hl 1 rfl) ?_
    refine fg_X9_22 C hP 0 rfl rfl dX9_commit_26 ?_
    refine lv_bipush (v := 64) hX hB dX9_commit_29 (by decide) ?_
    refine lv_iload_n hX hB dX9_commit_31 rfl (lv_at hl 0 rfl) ?_
    refine lv_iconst (v := 1) hX hB dX9_commit_32 (by decide) ?_
    refine z_isub (v := 2) C dX9_commit_33 (by decide) ?_
    refine z_imul (v := 128) C dX9_commit_34 (by decide) ?_
    refine z_callSv (isC := [2]) (isR := [0, 1]) (isO := [0, 1, 2]) (n_X9_copy_s o_4 192 128) (q_X9_copy_s cy h5 512) (fun o_5 => [(h0, .inr (11, [.ref h1, .ref h2, .ref h3, .ref h4, .ref h5, .int v1, .int v2, .int v3, .int v4, .int v5, .ref h6, .int v6, .ref h7, .ref h8, .ref h9, .int v7, .int v8, .int v9, .int v10, .int v11])), (h2, .inl (cy 0, 64, .inl (gb))), (h5, .inl (cy 0, 512, .inl (o_5)))]) (c_X9_copy_s l hE D cy h5 512 o_4 192 192 128 128 (zlit 192) (zlit 128) (by omega) (by omega) (by omega)) hE C zs_X9_72 ⟨Nat.le_of_ble_eq_true rfl, Nat.le_of_ble_eq_true rfl⟩ hP hD hS hA hE0 ⟨rfl, rfl, rfl, by decide, rfl, rfl, rfl⟩ rfl hl.1 (Nat.le_of_ble_eq_true rfl) rfl dX9_commit_35 ⟨Nat.le_of_ble_eq_true rfl, Nat.le_of_ble_eq_true rfl⟩ (fun o_5 H locs eo_5 hP hD hS => ?_)
    refine lv_iinc (v := 4) (lv' := [(2, .int 4), (0, .ref h0), (1, .int x)]) hX hB dX9_commit_38 hl (k := 0) rfl (by decide) (by decide) rfl (fun ls hl => ?_)
    refine lv_goto (tgt := 11) hX hB dX9_commit_41 (by decide) ?_
    refine lv_iload_n hX hB dX9_commit_11 rfl (lv_at hl 0 rfl) ?_
    refine lv_bipush (v := 8) hX hB dX9_commit_12 (by decide) ?_
    refine lv_icmp_ge (tgt := 44) hX hB dX9_commit_14 (by decide) (fun c => absurd c (by decide)) (fun _ => ?_)
    refine lv_aload_n hX hB dX9_commit_17 rfl (lv_at hl 1 rfl) ?_
    refine fg_X9_22 C hP 0 rfl rfl dX9_commit_18 ?_
    refine lv_bipush (v := 64) hX hB dX9_commit_21 (by decide) ?_
    refine lv_iload_n hX hB dX9_commit_23 rfl (lv_at hl 0 rfl) ?_
    refine z_imul (v := 256) C dX9_commit_24 (by decide) ?_
    refine lv_aload_n hX hB dX9_commit_25 rfl (lv_at hl 1 rfl) ?_
    refine fg_X9_22 C hP 0 rfl rfl dX9_commit_26 ?_
    refine lv_bipush (v := 64) hX hB dX9_commit_29 (by decide) ?_
    refine lv_iload_n hX hB dX9_commit_31 rfl (lv_at hl 0 rfl) ?_
    refine lv_iconst (v := 1) hX hB dX9_commit_32 (by decide) ?_
    refine z_isub (v := 3) C dX9_commit_33 (by decide) ?_
    refine z_imul (v := 192) C dX9_commit_34 (by decide) ?_
    refine z_callSv (isC := [2]) (isR := [0, 1]) (isO := [0, 1, 2]) (n_X9_copy_s o_5 256 192) (q_X9_copy_s cy h5 512) (fun o_6 => [(h0, .inr (11, [.ref h1, .ref h2, .ref h3, .ref h4, .ref h5, .int v1, .int v2, .int v3, .int v4, .int v5, .ref h6, .int v6, .ref h7, .ref h8, .ref h9, .int v7, .int v8, .int v9, .int v10, .int v11])), (h2, .inl (cy 0, 64, .inl (gb))), (h5, .inl (cy 0, 512, .inl (o_6)))]) (c_X9_copy_s l hE D cy h5 512 o_5 256 256 192 192 (zlit 256) (zlit 192) (by omega) (by omega) (by omega)) hE C zs_X9_72 ⟨Nat.le_of_ble_eq_true rfl, Nat.le_of_ble_eq_true rfl⟩ hP hD hS hA hE0 ⟨rfl, rfl, rfl, by decide, rfl, rfl, rfl⟩ rfl hl.1 (Nat.le_of_ble_eq_true rfl) rfl dX9_commit_35 ⟨Nat.le_of_ble_eq_true rfl, Nat.le_of_ble_eq_true rfl⟩ (fun o_6 H locs eo_6 hP hD hS => ?_)
    refine lv_iinc (v := 5) (lv' := [(2, .int 5), (0, .ref h0), (1, .int x)]) hX hB dX9_commit_38 hl (k := 0) rfl (by decide) (by decide) rfl (fun ls hl => ?_)
    refine lv_goto (tgt := 11) hX hB dX9_commit_41 (by decide) ?_
    refine lv_iload_n hX hB dX9_commit_11 rfl (lv_at hl 0 rfl) ?_
    refine lv_bipush (v := 8) hX hB dX9_commit_12 (by decide) ?_
    refine lv_icmp_ge (tgt := 44) hX hB dX9_commit_14 (by decide) (fun c => absurd c (by decide)) (fun _ => ?_)
    refine lv_aload_n hX hB dX9_commit_17 rfl (lv_at hl 1 rfl) ?_
    refine fg_X9_22 C hP 0 rfl rfl dX9_commit_18 ?_
    refine lv_bipush (v := 64) hX hB dX9_commit_21 (by decide) ?_
    refine lv_iload_n hX hB dX9_commit_23 rfl (lv_at hl 0 rfl) ?_
    refine z_imul (v := 320) C dX9_commit_24 (by decide) ?_
    refine lv_aload_n hX hB dX9_commit_25 rfl (lv_at hl 1 rfl) ?_
    refine fg_X9_22 C hP 0 rfl rfl dX9_commit_26 ?_
    refine lv_bipush (v := 64) hX hB dX9_commit_29 (by decide) ?_
    refine lv_iload_n hX hB dX9_commit_31 rfl (lv_at hl 0 rfl) ?_
    refine lv_iconst (v := 1) hX hB dX9_commit_32 (by decide) ?_
    refine z_isub (v := 4) C dX9_commit_33 (by decide) ?_
    refine z_imul (v := 256) C dX9_commit_34 (by decide) ?_
    refine z_callSv (isC := [2]) (isR := [0, 1]) (isO := [0, 1, 2]) (n_X9_copy_s o_6 320 256) (q_X9_copy_s cy h5 512) (fun o_7 => [(h0, .inr (11, [.ref h1, .ref h2, .ref h3, .ref h4, .ref h5, .int v1, .int v2, .int v3, .int v4, .int v5, .ref h6, .int v6, .ref h7, .ref h8, .ref h9, .int v7, .int v8, .int v9, .int v10, .int v11])), (h2, .inl (cy 0, 64, .inl (gb))), (h5, .inl (cy 0, 512, .inl (o_7)))]) (c_X9_copy_s l hE D cy h5 512 o_6 320 320 256 256 (zlit 320) (zlit 256) (by omega) (by omega) (by omega)) hE C zs_X9_72 ⟨Nat.le_of_ble_eq_true rfl, Nat.le_of_ble_eq_true rfl⟩ hP hD hS hA hE0 ⟨rfl, rfl, rfl, by decide, rfl, rfl, rfl⟩ rfl hl.1 (Nat.le_of_ble_eq_true rfl) rfl dX9_commit_35 ⟨Nat.le_of_ble_eq_true rfl, Nat.le_of_ble_eq_true rfl⟩ (fun o_7 H locs eo_7 hP hD hS => ?_)
    refine lv_iinc (v := 6) (lv' := [(2, .int 6), (0, .ref h0), (1, .int x)]) hX hB dX9_commit_38 hl (k := 0) rfl (by decide) (by decide) rfl (fun ls hl => ?_)
    refine lv_goto (tgt := 11) hX hB dX9_commit_41 (by decide) ?_
    refine lv_iload_n hX hB dX9_commit_11 rfl (lv_at hl 0 rfl) ?_
    refine lv_bipush (v := 8) hX hB dX9_commit_12 (by decide) ?_
    refine lv_icmp_ge (tgt := 44) hX hB dX9_commit_14 (by decide) (fun c => absurd c (by decide)) (fun _ => ?_)
    refine lv_aload_n hX hB dX9_commit_17 rfl (lv_at hl 1 rfl) ?_
    refine fg_X9_22 C hP 0 rfl rfl dX9_commit_18 ?_
    refine lv_bipush (v := 64) hX hB dX9_commit_21 (by decide) ?_
    refine lv_iload_n hX hB dX9_commit_23 rfl (lv_at hl 0 rfl) ?_
    refine z_imul (v := 384) C dX9_commit_24 (by decide) ?_
    refine lv_aload_n hX hB dX9_commit_25 rfl (lv_at hl 1 rfl) ?_
    refine fg_X9_22 C hP 0 rfl rfl dX9_commit_26 ?_
    refine lv_bipush (v := 64) hX hB dX9_commit_29 (by decide) ?_
    refine lv_iload_n hX hB dX9_commit_31 rfl (lv_at hl 0 rfl) ?_
    refine lv_iconst (v := 1) hX hB dX9_commit_32 (by decide) ?_
    refine z_isub (v := 5) C dX9_commit_33 (by decide) ?_
    refine z_imul (v := 320) C dX9_commit_34 (by decide) ?_
    refine z_callSv (isC := [2]) (isR := [0, 1]) (isO := [0, 1, 2]) (n_X9_copy_s o_7 384 320) (q_X9_copy_s cy h5 512) (fun o_8 => [(h0, .inr (11, [.ref h1, .ref h2, .ref h3, .ref h4, .ref h5, .int v1, .int v2, .int v3, .int v4, .int v5, .ref h6, .int v6, .ref h7, .ref h8, .ref h9, .int v7, .int v8, .int v9, .int v10, .int v11])), (h2, .inl (cy 0, 64, .inl (gb))), (h5, .inl (cy 0, 512, .inl (o_8)))]) (c_X9_copy_s l hE D cy h5 512 o_7 384 384 320 320 (zlit 384) (zlit 320) (by omega) (by omega) (by omega)) hE C zs_X9_72 ⟨Nat.le_of_ble_eq_true rfl, Nat.le_of_ble_eq_true rfl⟩ hP hD hS hA hE0 ⟨rfl, rfl, rfl, by decide, rfl, rfl, rfl⟩ rfl hl.1 (Nat.le_of_ble_eq_true rfl) rfl dX9_commit_35 ⟨Nat.le_of_ble_eq_true rfl, Nat.le_of_ble_eq_true rfl⟩ (fun o_8 H locs eo_8 hP hD hS => ?_)
    refine lv_iinc (v := 7) (lv' := [(2, .int 7), (0, .ref h0), (1, .int x)]) hX hB dX9_commit_38 hl (k := 0) rfl (by decide) (by decide) rfl (fun ls hl => ?_)
    refine lv_goto (tgt := 11) hX hB dX9_commit_41 (by decide) ?_
    refine lv_iload_n hX hB dX9_commit_11 rfl (lv_at hl 0 rfl) ?_
    refine lv_bipush (v := 8) hX hB dX9_commit_12 (by decide) ?_
    refine lv_icmp_ge (tgt := 44) hX hB dX9_commit_14 (by decide) (fun c => absurd c (by decide)) (fun _ => ?_)
    refine lv_aload_n hX hB dX9_commit_17 rfl (lv_at hl 1 rfl) ?_
    refine fg_X9_22 C hP 0 rfl rfl dX9_commit_18 ?_
    refine lv_bipush (v := 64) hX hB dX9_commit_21 (by decide) ?_
    refine lv_iload_n hX hB dX9_commit_23 rfl (lv_at hl 0 rfl) ?_
    refine z_imul (v := 448) C dX9_commit_24 (by decide) ?_
    refine lv_aload_n hX hB dX9_commit_25 rfl (lv_at hl 1 rfl) ?_
    refine fg_X9_22 C hP 0 rfl rfl dX9_commit_26 ?_
    refine lv_bipush (v := 64) hX hB dX9_commit_29 (by decide) ?_
    refine lv_iload_n hX hB dX9_commit_31 rfl (lv_at hl 0 rfl) ?_
    refine lv_iconst (v := 1) hX hB dX9_commit_32 (by decide) ?_
    refine z_isub (v := 6) C dX9_commit_33 (by decide) ?_
    refine z_imul (v := 384) C dX9_commit_34 (by decide) ?_
    refine z_callSv (isC := [2]) (isR := [0, 1]) (isO := [0, 1, 2]) (n_X9_copy_s o_8 448 384) (q_X9_copy_s cy h5 512) (fun o_9 => [(h0, .inr (11, [.ref h1, .ref h2, .ref h3, .ref h4, .ref h5, .int v1, .int v2, .int v3, .int v4, .int v5, .ref h6, .int v6, .ref h7, .ref h8, .ref h9, .int v7, .int v8, .int v9, .int v10, .int v11])), (h2, .inl (cy 0, 64, .inl (gb))), (h5, .inl (cy 0, 512, .inl (o_9)))]) (c_X9_copy_s l hE D cy h5 512 o_8 448 448 384 384 (zlit 448) (zlit 384) (by omega) (by omega) (by omega)) hE C zs_X9_72 ⟨Nat.le_of_ble_eq_true rfl, Nat.le_of_ble_eq_true rfl⟩ hP hD hS hA hE0 ⟨rfl, rfl, rfl, by decide, rfl, rfl, rfl⟩ rfl hl.1 (Nat.le_of_ble_eq_true rfl) rfl dX9_commit_35 ⟨Nat.le_of_ble_eq_true rfl, Nat.le_of_ble_eq_true rfl⟩ (fun o_9 H locs eo_9 hP hD hS => ?_)
    refine lv_iinc (v := 8) (lv' := [(2, .int 8), (0, .ref h0), (1, .int x)]) hX hB dX9_commit_38 hl (k := 0) rfl (by decide) (by decide) rfl (fun ls hl => ?_)
    refine lv_goto (tgt := 11) hX hB dX9_commit_41 (by decide) ?_
    refine lv_iload_n hX hB dX9_commit_11 rfl (lv_at hl 0 rfl) ?_
    refine lv_bipush (v := 8) hX hB dX9_commit_12 (by decide) ?_
    refine lv_icmp_ge (tgt := 44) hX hB dX9_commit_14 (by decide) (fun _ => ?_) (fun c => absurd (by decide) c)
    refine lv_aload_n hX hB dX9_commit_44 rfl (lv_at hl 1 rfl) ?_
    refine lv_dup hX hB dX9_commit_45 rfl ?_
    refine fg_X9_29 C hP 0 rfl rfl dX9_commit_46 ?_
    refine lv_iconst (v := 1) hX hB dX9_commit_49 (by decide) ?_
    refine z_isub (v := nI ((zn v2) - 1)) C dX9_commit_50 (zi_sub hd.1 (zlit 1) (by omega)) ?_
    refine fp_X9_29 C hP hD hS 0 rfl rfl rfl (Nat.le_of_ble_eq_true rfl) (w' := [(h0, .inr (11, [.ref h1, .ref h2, .ref h3, .ref h4, .ref h5, .int v1, .int (nI ((zn v2) - 1)), .int v3, .int v4, .int v5, .ref h6, .int v6, .ref h7, .ref h8, .ref h9, .int v7, .int v8, .int v9, .int v10, .int v11])), (h2, .inl (cy 0, 64, .inl (gb))), (h5, .inl (cy 0, 512, .inl (o_9)))]) rfl dX9_commit_51 (fun H locs hP hD hS => ?_)
    refine lv_aload_n hX hB dX9_commit_54 rfl (lv_at hl 1 rfl) ?_
    refine fg_X9_13 C hP 0 rfl rfl dX9_commit_55 ?_
    refine lv_iconst (v := 0) hX hB dX9_commit_58 (by decide) ?_
    refine lv_aload_n hX hB dX9_commit_59 rfl (lv_at hl 1 rfl) ?_
    refine fg_X9_22 C hP 0 rfl rfl dX9_commit_60 ?_
    refine lv_bipush (v := 64) hX hB dX9_commit_63 (by decide) ?_
    refine lv_aload_n hX hB dX9_commit_65 rfl (lv_at hl 1 rfl) ?_
    refine fg_X9_29 C hP 0 rfl rfl dX9_commit_66 ?_
    refine z_imul (v := nI (64 * ((zn v2) - 1))) C dX9_commit_69 (zi_mul (zlit 64) (zi_i ((zn v2) - 1))) ?_
    refine z_callSv (isC := [1, 2]) (isR := [0]) (isO := [0, 1, 2]) (n_X9_copy gb o_9 0 (64 * ((zn v2) - 1))) (q_X9_copy cy h2 h5 64 512 gb) (fun o_10 => [(h0, .inr (11, [.ref h1, .ref h2, .ref h3, .ref h4, .ref h5, .int v1, .int (nI ((zn v2) - 1)), .int v3, .int v4, .int v5, .ref h6, .int v6, .ref h7, .ref h8, .ref h9, .int v7, .int v8, .int v9, .int v10, .int v11])), (h2, .inl (cy 0, 64, .inl (gb))), (h5, .inl (cy 0, 512, .inl (o_10)))]) (c_X9_copy l hE D cy h2 h5 64 512 gb o_9 0 0 (nI (64 * ((zn v2) - 1))) (64 * ((zn v2) - 1)) (zlit 0) (zi_i (64 * ((zn v2) - 1))) (by omega) (by omega) (by omega) (by omega)) hE C zs_X9_72 ⟨Nat.le_of_ble_eq_true rfl, Nat.le_of_ble_eq_true rfl⟩ hP hD hS hA hE0 ⟨rfl, rfl, rfl, by decide, rfl, rfl, rfl⟩ rfl hl.1 (Nat.le_of_ble_eq_true rfl) rfl dX9_commit_70 ⟨Nat.le_of_ble_eq_true rfl, Nat.le_of_ble_eq_true rfl⟩ (fun o_10 H locs eo_10 hP hD hS => ?_)
    refine lv_aload_n hX hB dX9_commit_73 rfl (lv_at hl 1 rfl) ?_
    refine lv_dup hX hB dX9_commit_74 rfl ?_
    refine fg_X9_29 C hP 0 rfl rfl dX9_commit_75 ?_
    refine lv_iconst (v := 1) hX hB dX9_commit_78 (by decide) ?_
    refine z_iadd (v := nI (((zn v2) - 1) + 1)) C dX9_commit_79 (zi_add (zi_i ((zn v2) - 1)) (zlit 1)) ?_
    refine fp_X9_29 C hP hD hS 0 rfl rfl rfl (Nat.le_of_ble_eq_true rfl) (w' := [(h0, .inr (11, [.ref h1, .ref h2, .ref h3, .ref h4, .ref h5, .int v1, .int (nI (((zn v2) - 1) + 1)), .int v3, .int v4, .int v5, .ref h6, .int v6, .ref h7, .ref h8, .ref h9, .int v7, .int v8, .int v9, .int v10, .int v11])), (h2, .inl (cy 0, 64, .inl (gb))), (h5, .inl (cy 0, 512, .inl (o_10)))]) rfl dX9_commit_80 (fun H locs hP hD hS => ?_)
    refine lv_iload_n hX hB dX9_commit_83 rfl (lv_at hl 2 rfl) ?_
    exact z_iret' (x, nI (((zn v2) - 1) + 1), o_10) (w' := q_X9_commit cy h0 h1 h2 h3 h4 h5 h6 h7 h8 h9 v1 v3 v4 v5 v6 v7 v8 v9 v10 v11 gb) (r0 := (fun (o : Int32 × Int32 × (Nat → Int32)) => o.1)) (by simp only [n_X9_commit, if_pos c_1, ← eo_3, ← eo_4, ← eo_5, ← eo_6, ← eo_7, ← eo_8, ← eo_9, ← eo_10]) C hRT hP hD hS (Nat.le_of_ble_eq_true rfl) (Nat.le_of_ble_eq_true rfl) rfl rfl dX9_commit_84

def q_X9_in_t   (o : Unit) : va_W := []
set_option maxHeartbeats 4000000 in
set_option maxRecDepth 100000 in
theorem c_X9_in_t (l : Launch) {E : zEn} (hE : zEok E) (D : zG) (cy : Nat → ClassId) (x : Int32) (a : Nat) (y : Int32) (b : Nat) (z : Int32) (c : Nat) (hx : zi x a) (hy : zi y b) (hz : zi z c) (h1 : b ≤ a) (h2 : a ≤ c) (h3 : c ≤ 1000000) (sz : Nat) : Met l yX9_in (zws yX9_in cX9_in 3 (some .boolean)) { frames := 0, cells := 0, slots := 0, locals := 0 } (zPre E D cy [.int x, .int y, .int z] [] sz) (zQi D ((q_X9_in_t ) ()) (va_A [] sz) (1)) 0 0 (va_A [] sz) := by
  refine z_of (Qc := fun A => zQi D ((q_X9_in_t ) ()) A (1)) (by decide +kernel) (Nat.le_of_ble_eq_true rfl) rfl ?_
  intro pG eN sT mI below meth cO A ls C hRT hnm hA hP hD hS hE0 hl
  have hX := C.x
  have hB := C.b
  refine lv_iload_n hX hB dX9_in_0 rfl (lv_at hl 0 rfl) ?_
  refine lv_iload_n hX hB dX9_in_1 rfl (lv_at hl 1 rfl) ?_
  refine lv_icmp_lt (tgt := 14) hX hB dX9_in_2 (by decide) (fun c => absurd c (zi_nlt hx hy (by omega) (by omega))) (fun _ => ?_)
  refine lv_iload_n hX hB dX9_in_5 rfl (lv_at hl 0 rfl) ?_
  refine lv_iload_n hX hB dX9_in_6 rfl (lv_at hl 2 rfl) ?_
  refine lv_icmp_gt (tgt := 14) hX hB dX9_in_7 (by decide) (fun c => absurd c (zi_nlt hz hx (by omega) (by omega))) (fun _ => ?_)
  refine lv_iconst (v := 1) hX hB dX9_in_10 (by decide) ?_
  refine lv_goto (tgt := 15) hX hB dX9_in_11 (by decide) ?_
  exact z_zret' () (w' := q_X9_in_t ) (r0 := (fun (o : Unit) => 1)) rfl C hRT (zb01 (Or.inr rfl)) hP hD hS (Nat.le_of_ble_eq_true rfl) (Nat.le_of_ble_eq_true rfl) rfl rfl dX9_in_15

def n_X9_in (x : Int32) (y : Int32) (z : Int32) : Int32 :=
  if x < y then
    0
  else
    if z < x then
      0
    else
      1
def q_X9_in   (o : Int32) : va_W := []
theorem b_X9_in (x : Int32) (y : Int32) (z : Int32) : (n_X9_in x y z) = 0 ∨ (n_X9_in x y z) = 1 := by
  simp only [n_X9_in]
  repeat (any_goals split)
  all_goals (first | exact Or.inl rfl | exact Or.inr rfl)
set_option maxHeartbeats 4000000 in
set_option maxRecDepth 100000 in
theorem c_X9_in (l : Launch) {E : zEn} (hE : zEok E) (D : zG) (cy : Nat → ClassId) (x : Int32) (y : Int32) (z : Int32)  (sz : Nat) : Met l yX9_in (zws yX9_in cX9_in 3 (some .boolean)) { frames := 0, cells := 0, slots := 0, locals := 0 } (zPre E D cy [.int x, .int y, .int z] [] sz) (zQi D ((q_X9_in ) (n_X9_in x y z)) (va_A [] sz) ((n_X9_in x y z))) 0 0 (va_A [] sz) := by
  refine z_of (Qc := fun A => zQi D ((q_X9_in ) (n_X9_in x y z)) A ((n_X9_in x y z))) (by decide +kernel) (Nat.le_of_ble_eq_true rfl) rfl ?_
  intro pG eN sT mI below meth cO A ls C hRT hnm hA hP hD hS hE0 hl
  have hX := C.x
  have hB := C.b
  refine lv_iload_n hX hB dX9_in_0 rfl (lv_at hl 0 rfl) ?_
  refine lv_iload_n hX hB dX9_in_1 rfl (lv_at hl 1 rfl) ?_
  refine lv_icmp_lt (tgt := 14) hX hB dX9_in_2 (by decide) (fun c_1 => ?_) (fun c_1 => ?_)
  · refine lv_iconst (v := 0) hX hB dX9_in_14 (by decide) ?_
    exact z_zret' 0 (w' := q_X9_in ) (r0 := (fun (o : Int32) => o)) (by simp only [n_X9_in, if_pos c_1]) C hRT (zb01 (Or.inl rfl)) hP hD hS (Nat.le_of_ble_eq_true rfl) (Nat.le_of_ble_eq_true rfl) rfl rfl dX9_in_15
  · refine lv_iload_n hX hB dX9_in_5 rfl (lv_at hl 0 rfl) ?_
    refine lv_iload_n hX hB dX9_in_6 rfl (lv_at hl 2 rfl) ?_
    refine lv_icmp_gt (tgt := 14) hX hB dX9_in_7 (by decide) (fun c_2 => ?_) (fun c_2 => ?_)
    · refine lv_iconst (v := 0) hX hB dX9_in_14 (by decide) ?_
      exact z_zret' 0 (w' := q_X9_in ) (r0 := (fun (o : Int32) => o)) (by simp only [n_X9_in, if_neg c_1, if_pos c_2]) C hRT (zb01 (Or.inl rfl)) hP hD hS (Nat.le_of_ble_eq_true rfl) (Nat.le_of_ble_eq_true rfl) rfl rfl dX9_in_15
    · refine lv_iconst (v := 1) hX hB dX9_in_10 (by decide) ?_
      refine lv_goto (tgt := 15) hX hB dX9_in_11 (by decide) ?_
      exact z_zret' 1 (w' := q_X9_in ) (r0 := (fun (o : Int32) => o)) (by simp only [n_X9_in, if_neg c_1, if_neg c_2]) C hRT (zb01 (Or.inr rfl)) hP hD hS (Nat.le_of_ble_eq_true rfl) (Nat.le_of_ble_eq_true rfl) rfl rfl dX9_in_15

def q_X9_cannotHit4_ok (cy : Nat → ClassId) (h0 : Nat) (h1 : Nat) (h2 : Nat) (h3 : Nat) (h4 : Nat) (h5 : Nat) (h6 : Nat) (h7 : Nat) (h8 : Nat) (h9 : Nat) (v1 : Int32) (v2 : Int32) (v3 : Int32) (v4 : Int32) (v5 : Int32) (v6 : Int32) (v7 : Int32) (v8 : Int32) (v9 : Int32) (v10 : Int32) (v11 : Int32) (g : Nat → Int32) (o : Unit) : va_W := [(h0, .inr (11, [.ref h1, .ref h2, .ref h3, .ref h4, .ref h5, .int v1, .int v2, .int v3, .int v4, .int v5, .ref h6, .int v6, .ref h7, .ref h8, .ref h9, .int v7, .int v8, .int v9, .int v10, .int v11])), (h1, .inl (cy 0, 64, .inl (g)))]
set_option maxHeartbeats 4000000 in
set_option maxRecDepth 100000 in
theorem c_X9_cannotHit4_ok (l : Launch) {E : zEn} (hE : zEok E) (D : zG) (cy : Nat → ClassId) (h0 h1 h2 h3 h4 h5 h6 h7 h8 h9 : Nat) (v1 : Int32) (v2 : Int32) (v3 : Int32) (v4 : Int32) (v5 : Int32) (v6 : Int32) (v7 : Int32) (v8 : Int32) (v9 : Int32) (v10 : Int32) (v11 : Int32) (g : Nat → Int32) (x : Int32) (i : Nat) (hx : zi x i) (hxb : i ≤ 3) (hr : g 0 = 1) (sz : Nat) : Met l yX9_cannotHit (zws yX9_cannotHit cX9_cannotHit 3 (some .int)) { frames := 1, cells := 0, slots := 0, locals := 22 } (zPre E D cy [.ref h0, .int x, .int 4] [(h0, .inr (11, [.ref h1, .ref h2, .ref h3, .ref h4, .ref h5, .int v1, .int v2, .int v3, .int v4, .int v5, .ref h6, .int v6, .ref h7, .ref h8, .ref h9, .int v7, .int v8, .int v9, .int v10, .int v11])), (h1, .inl (cy 0, 64, .inl (g)))] sz) (zQi D ((q_X9_cannotHit4_ok cy h0 h1 h2 h3 h4 h5 h6 h7 h8 h9 v1 v2 v3 v4 v5 v6 v7 v8 v9 v10 v11 g) ()) (va_A [(h0, .inr (11, [.ref h1, .ref h2, .ref h3, .ref h4, .ref h5, .int v1, .int v2, .int v3, .int v4, .int v5, .ref h6, .int v6, .ref h7, .ref h8, .ref h9, .int v7, .int v8, .int v9, .int v10, .int v11])), (h1, .inl (cy 0, 64, .inl (g)))] sz) (0)) 0 0 (va_A [(h0, .inr (11, [.ref h1, .ref h2, .ref h3, .ref h4, .ref h5, .int v1, .int v2, .int v3, .int v4, .int v5, .ref h6, .int v6, .ref h7, .ref h8, .ref h9, .int v7, .int v8, .int v9, .int v10, .int v11])), (h1, .inl (cy 0, 64, .inl (g)))] sz) := by
  refine z_of (Qc := fun A => zQi D ((q_X9_cannotHit4_ok cy h0 h1 h2 h3 h4 h5 h6 h7 h8 h9 v1 v2 v3 v4 v5 v6 v7 v8 v9 v10 v11 g) ()) A (0)) (by decide +kernel) (Nat.le_of_ble_eq_true rfl) rfl ?_
  intro pG eN sT mI below meth cO A ls C hRT hnm hA hP hD hS hE0 hl
  have hX := C.x
  have hB := C.b
  refine lv_iload_n hX hB dX9_cannotHit_0 rfl (lv_at hl 1 rfl) ?_
  refine lv_iconst (v := 0) hX hB dX9_cannotHit_1 (by decide) ?_
  refine lv_iload_n hX hB dX9_cannotHit_2 rfl (lv_at hl 2 rfl) ?_
  refine lv_iconst (v := 1) hX hB dX9_cannotHit_3 (by decide) ?_
  refine z_isub (v := 3) C dX9_cannotHit_4 (by decide) ?_
  refine z_callSi (isC := []) (isR := [0, 1]) (isO := [0, 1]) (()) (q_X9_in_t ) (fun o_1 => [(h0, .inr (11, [.ref h1, .ref h2, .ref h3, .ref h4, .ref h5, .int v1, .int v2, .int v3, .int v4, .int v5, .ref h6, .int v6, .ref h7, .ref h8, .ref h9, .int v7, .int v8, .int v9, .int v10, .int v11])), (h1, .inl (cy 0, 64, .inl (g)))]) (fun o_1 => 1) (c_X9_in_t l hE D cy  x i 0 0 3 3 hx (zlit 0) (zlit 3) (by omega) (by omega) (by omega)) hE C zs_X9_127 ⟨Nat.le_of_ble_eq_true rfl, Nat.le_of_ble_eq_true rfl⟩ hP hD hS hA hE0 ⟨rfl, rfl, rfl, by decide, rfl, rfl, rfl⟩ rfl hl.1 (Nat.le_of_ble_eq_true rfl) rfl dX9_cannotHit_5 ⟨Nat.le_of_ble_eq_true rfl, Nat.le_of_ble_eq_true rfl⟩ (fun o_1 H locs eo_1 hP hD hS => ?_)
  refine lv_if_ne (tgt := 15) hX hB dX9_cannotHit_8 (by decide) (fun _ => ?_) (fun c => absurd c (by decide))
  refine lv_aload_n hX hB dX9_cannotHit_15 rfl (lv_at hl 0 rfl) ?_
  refine z_callVi (isC := [0, 1]) (isR := []) (isO := [0, 1]) (()) (q_X9_runs_t cy h0 h1 h2 h3 h4 h5 h6 h7 h8 h9 v1 v2 v3 v4 v5 v6 v7 v8 v9 v10 v11 g) (fun o_2 => [(h0, .inr (11, [.ref h1, .ref h2, .ref h3, .ref h4, .ref h5, .int v1, .int v2, .int v3, .int v4, .int v5, .ref h6, .int v6, .ref h7, .ref h8, .ref h9, .int v7, .int v8, .int v9, .int v10, .int v11])), (h1, .inl (cy 0, 64, .inl (g)))]) (fun o_2 => 1) (c_X9_runs_t l hE D cy h0 h1 h2 h3 h4 h5 h6 h7 h8 h9 v1 v2 v3 v4 v5 v6 v7 v8 v9 v10 v11 g hr) hE C zs_X9_76 ⟨Nat.le_of_ble_eq_true rfl, Nat.le_of_ble_eq_true rfl⟩ hP hD hS hA hE0 ⟨rfl, rfl, rfl, by decide, rfl, rfl, rfl⟩ 0 rfl rfl rfl rfl hl.1 (Nat.le_of_ble_eq_true rfl) rfl dX9_cannotHit_16 ⟨Nat.le_of_ble_eq_true rfl, Nat.le_of_ble_eq_true rfl⟩ (fun o_2 H locs eo_2 hP hD hS => ?_)
  refine lv_if_eq (tgt := 26) hX hB dX9_cannotHit_19 (by decide) (fun c => absurd c (by decide)) (fun _ => ?_)
  refine lv_iconst (v := 0) hX hB dX9_cannotHit_22 (by decide) ?_
  refine lv_goto (tgt := 27) hX hB dX9_cannotHit_23 (by decide) ?_
  exact z_iret' () (w' := q_X9_cannotHit4_ok cy h0 h1 h2 h3 h4 h5 h6 h7 h8 h9 v1 v2 v3 v4 v5 v6 v7 v8 v9 v10 v11 g) (r0 := (fun (o : Unit) => 0)) rfl C hRT hP hD hS (Nat.le_of_ble_eq_true rfl) (Nat.le_of_ble_eq_true rfl) rfl rfl dX9_cannotHit_27

def q_X9_cannotHit4_2 (cy : Nat → ClassId) (h0 : Nat) (h1 : Nat) (h2 : Nat) (h3 : Nat) (h4 : Nat) (h5 : Nat) (h6 : Nat) (h7 : Nat) (h8 : Nat) (h9 : Nat) (v1 : Int32) (v2 : Int32) (v3 : Int32) (v4 : Int32) (v5 : Int32) (v6 : Int32) (v7 : Int32) (v8 : Int32) (v9 : Int32) (v10 : Int32) (v11 : Int32) (g : Nat → Int32) (o : Unit) : va_W := [(h0, .inr (11, [.ref h1, .ref h2, .ref h3, .ref h4, .ref h5, .int v1, .int v2, .int v3, .int v4, .int v5, .ref h6, .int v6, .ref h7, .ref h8, .ref h9, .int v7, .int v8, .int v9, .int v10, .int v11])), (h1, .inl (cy 0, 64, .inl (g)))]
set_option maxHeartbeats 4000000 in
set_option maxRecDepth 100000 in
theorem c_X9_cannotHit4_2 (l : Launch) {E : zEn} (hE : zEok E) (D : zG) (cy : Nat → ClassId) (h0 h1 h2 h3 h4 h5 h6 h7 h8 h9 : Nat) (v1 : Int32) (v2 : Int32) (v3 : Int32) (v4 : Int32) (v5 : Int32) (v6 : Int32) (v7 : Int32) (v8 : Int32) (v9 : Int32) (v10 : Int32) (v11 : Int32) (g : Nat → Int32) (x : Int32) (i : Nat) (hx : zi x i) (hxb : i ≤ 3) (hr : ¬ g 0 = 1) (sz : Nat) : Met l yX9_cannotHit (zws yX9_cannotHit cX9_cannotHit 3 (some .int)) { frames := 1, cells := 0, slots := 0, locals := 22 } (zPre E D cy [.ref h0, .int x, .int 4] [(h0, .inr (11, [.ref h1, .ref h2, .ref h3, .ref h4, .ref h5, .int v1, .int v2, .int v3, .int v4, .int v5, .ref h6, .int v6, .ref h7, .ref h8, .ref h9, .int v7, .int v8, .int v9, .int v10, .int v11])), (h1, .inl (cy 0, 64, .inl (g)))] sz) (zQi D ((q_X9_cannotHit4_2 cy h0 h1 h2 h3 h4 h5 h6 h7 h8 h9 v1 v2 v3 v4 v5 v6 v7 v8 v9 v10 v11 g) ()) (va_A [(h0, .inr (11, [.ref h1, .ref h2, .ref h3, .ref h4, .ref h5, .int v1, .int v2, .int v3, .int v4, .int v5, .ref h6, .int v6, .ref h7, .ref h8, .ref h9, .int v7, .int v8, .int v9, .int v10, .int v11])), (h1, .inl (cy 0, 64, .inl (g)))] sz) (2)) 0 0 (va_A [(h0, .inr (11, [.ref h1, .ref h2, .ref h3, .ref h4, .ref h5, .int v1, .int v2, .int v3, .int v4, .int v5, .ref h6, .int v6, .ref h7, .ref h8, .ref h9, .int v7, .int v8, .int v9, .int v10, .int v11])), (h1, .inl (cy 0, 64, .inl (g)))] sz) := by
  refine z_of (Qc := fun A => zQi D ((q_X9_cannotHit4_2 cy h0 h1 h2 h3 h4 h5 h6 h7 h8 h9 v1 v2 v3 v4 v5 v6 v7 v8 v9 v10 v11 g) ()) A (2)) (by decide +kernel) (Nat.le_of_ble_eq_true rfl) rfl ?_
  intro pG eN sT mI below meth cO A ls C hRT hnm hA hP hD hS hE0 hl
  have hX := C.x
  have hB := C.b
  refine lv_iload_n hX hB dX9_cannotHit_0 rfl (lv_at hl 1 rfl) ?_
  refine lv_iconst (v := 0) hX hB dX9_cannotHit_1 (by decide) ?_
  refine lv_iload_n hX hB dX9_cannotHit_2 rfl (lv_at hl 2 rfl) ?_
  refine lv_iconst (v := 1) hX hB dX9_cannotHit_3 (by decide) ?_
  refine z_isub (v := 3) C dX9_cannotHit_4 (by decide) ?_
  refine z_callSi (isC := []) (isR := [0, 1]) (isO := [0, 1]) (()) (q_X9_in_t ) (fun o_1 => [(h0, .inr (11, [.ref h1, .ref h2, .ref h3, .ref h4, .ref h5, .int v1, .int v2, .int v3, .int v4, .int v5, .ref h6, .int v6, .ref h7, .ref h8, .ref h9, .int v7, .int v8, .int v9, .int v10, .int v11])), (h1, .inl (cy 0, 64, .inl (g)))]) (fun o_1 => 1) (c_X9_in_t l hE D cy  x i 0 0 3 3 hx (zlit 0) (zlit 3) (by omega) (by omega) (by omega)) hE C zs_X9_127 ⟨Nat.le_of_ble_eq_true rfl, Nat.le_of_ble_eq_true rfl⟩ hP hD hS hA hE0 ⟨rfl, rfl, rfl, by decide, rfl, rfl, rfl⟩ rfl hl.1 (Nat.le_of_ble_eq_true rfl) rfl dX9_cannotHit_5 ⟨Nat.le_of_ble_eq_true rfl, Nat.le_of_ble_eq_true rfl⟩ (fun o_1 H locs eo_1 hP hD hS => ?_)
  refine lv_if_ne (tgt := 15) hX hB dX9_cannotHit_8 (by decide) (fun _ => ?_) (fun c => absurd c (by decide))
  refine lv_aload_n hX hB dX9_cannotHit_15 rfl (lv_at hl 0 rfl) ?_
  refine z_callVi (isC := [0, 1]) (isR := []) (isO := [0, 1]) (()) (q_X9_runs_f cy h0 h1 h2 h3 h4 h5 h6 h7 h8 h9 v1 v2 v3 v4 v5 v6 v7 v8 v9 v10 v11 g) (fun o_2 => [(h0, .inr (11, [.ref h1, .ref h2, .ref h3, .ref h4, .ref h5, .int v1, .int v2, .int v3, .int v4, .int v5, .ref h6, .int v6, .ref h7, .ref h8, .ref h9, .int v7, .int v8, .int v9, .int v10, .int v11])), (h1, .inl (cy 0, 64, .inl (g)))]) (fun o_2 => 0) (c_X9_runs_f l hE D cy h0 h1 h2 h3 h4 h5 h6 h7 h8 h9 v1 v2 v3 v4 v5 v6 v7 v8 v9 v10 v11 g hr) hE C zs_X9_76 ⟨Nat.le_of_ble_eq_true rfl, Nat.le_of_ble_eq_true rfl⟩ hP hD hS hA hE0 ⟨rfl, rfl, rfl, by decide, rfl, rfl, rfl⟩ 0 rfl rfl rfl rfl hl.1 (Nat.le_of_ble_eq_true rfl) rfl dX9_cannotHit_16 ⟨Nat.le_of_ble_eq_true rfl, Nat.le_of_ble_eq_true rfl⟩ (fun o_2 H locs eo_2 hP hD hS => ?_)
  refine lv_if_eq (tgt := 26) hX hB dX9_cannotHit_19 (by decide) (fun _ => ?_) (fun c => absurd (by decide) c)
  refine lv_iconst (v := 2) hX hB dX9_cannotHit_26 (by decide) ?_
  exact z_iret' () (w' := q_X9_cannotHit4_2 cy h0 h1 h2 h3 h4 h5 h6 h7 h8 h9 v1 v2 v3 v4 v5 v6 v7 v8 v9 v10 v11 g) (r0 := (fun (o : Unit) => 2)) rfl C hRT hP hD hS (Nat.le_of_ble_eq_true rfl) (Nat.le_of_ble_eq_true rfl) rfl rfl dX9_cannotHit_27

def q_X9_cannotHit4_1 (cy : Nat → ClassId) (h0 : Nat) (h1 : Nat) (h2 : Nat) (h3 : Nat) (h4 : Nat) (h5 : Nat) (h6 : Nat) (h7 : Nat) (h8 : Nat) (h9 : Nat) (v1 : Int32) (v2 : Int32) (v3 : Int32) (v4 : Int32) (v5 : Int32) (v6 : Int32) (v7 : Int32) (v8 : Int32) (v9 : Int32) (v10 : Int32) (v11 : Int32) (g : Nat → Int32) (o : Unit) : va_W := [(h0, .inr (11, [.ref h1, .ref h2, .ref h3, .ref h4, .ref h5, .int v1, .int v2, .int v3, .int v4, .int v5, .ref h6, .int v6, .ref h7, .ref h8, .ref h9, .int v7, .int v8, .int v9, .int v10, .int v11])), (h1, .inl (cy 0, 64, .inl (g)))]
set_option maxHeartbeats 4000000 in
set_option maxRecDepth 100000 in
theorem c_X9_cannotHit4_1 (l : Launch) {E : zEn} (hE : zEok E) (D : zG) (cy : Nat → ClassId) (h0 h1 h2 h3 h4 h5 h6 h7 h8 h9 : Nat) (v1 : Int32) (v2 : Int32) (v3 : Int32) (v4 : Int32) (v5 : Int32) (v6 : Int32) (v7 : Int32) (v8 : Int32) (v9 : Int32) (v10 : Int32) (v11 : Int32) (g : Nat → Int32) (x : Int32) (hin : n_X9_in x 0 3 = 0) (sz : Nat) : Met l yX9_cannotHit (zws yX9_cannotHit cX9_cannotHit 3 (some .int)) { frames := 1, cells := 0, slots := 0, locals := 22 } (zPre E D cy [.ref h0, .int x, .int 4] [(h0, .inr (11, [.ref h1, .ref h2, .ref h3, .ref h4, .ref h5, .int v1, .int v2, .int v3, .int v4, .int v5, .ref h6, .int v6, .ref h7, .ref h8, .ref h9, .int v7, .int v8, .int v9, .int v10, .int v11])), (h1, .inl (cy 0, 64, .inl (g)))] sz) (zQi D ((q_X9_cannotHit4_1 cy h0 h1 h2 h3 h4 h5 h6 h7 h8 h9 v1 v2 v3 v4 v5 v6 v7 v8 v9 v10 v11 g) ()) (va_A [(h0, .inr (11, [.ref h1, .ref h2, .ref h3, .ref h4, .ref h5, .int v1, .int v2, .int v3, .int v4, .int v5, .ref h6, .int v6, .ref h7, .ref h8, .ref h9, .int v7, .int v8, .int v9, .int v10, .int v11])), (h1, .inl (cy 0, 64, .inl (g)))] sz) (1)) 0 0 (va_A [(h0, .inr (11, [.ref h1, .ref h2, .ref h3, .ref h4, .ref h5, .int v1, .int v2, .int v3, .int v4, .int v5, .ref h6, .int v6, .ref h7, .ref h8, .ref h9, .int v7, .int v8, .int v9, .int v10, .int v11])), (h1, .inl (cy 0, 64, .inl (g)))] sz) := by
  refine z_of (Qc := fun A => zQi D ((q_X9_cannotHit4_1 cy h0 h1 h2 h3 h4 h5 h6 h7 h8 h9 v1 v2 v3 v4 v5 v6 v7 v8 v9 v10 v11 g) ()) A (1)) (by decide +kernel) (Nat.le_of_ble_eq_true rfl) rfl ?_
  intro pG eN sT mI below meth cO A ls C hRT hnm hA hP hD hS hE0 hl
  have hX := C.x
  have hB := C.b
  refine lv_iload_n hX hB dX9_cannotHit_0 rfl (lv_at hl 1 rfl) ?_
  refine lv_iconst (v := 0) hX hB dX9_cannotHit_1 (by decide) ?_
  refine lv_iload_n hX hB dX9_cannotHit_2 rfl (lv_at hl 2 rfl) ?_
  refine lv_iconst (v := 1) hX hB dX9_cannotHit_3 (by decide) ?_
  refine z_isub (v := 3) C dX9_cannotHit_4 (by decide) ?_
  refine z_callSi (isC := []) (isR := [0, 1]) (isO := [0, 1]) (n_X9_in x 0 3) (q_X9_in ) (fun o_1 => [(h0, .inr (11, [.ref h1, .ref h2, .ref h3, .ref h4, .ref h5, .int v1, .int v2, .int v3, .int v4, .int v5, .ref h6, .int v6, .ref h7, .ref h8, .ref h9, .int v7, .int v8, .int v9, .int v10, .int v11])), (h1, .inl (cy 0, 64, .inl (g)))]) (fun o_1 => o_1) (c_X9_in l hE D cy  x 0 3 ) hE C zs_X9_127 ⟨Nat.le_of_ble_eq_true rfl, Nat.le_of_ble_eq_true rfl⟩ hP hD hS hA hE0 ⟨rfl, rfl, rfl, by decide, rfl, rfl, rfl⟩ rfl hl.1 (Nat.le_of_ble_eq_true rfl) rfl dX9_cannotHit_5 ⟨Nat.le_of_ble_eq_true rfl, Nat.le_of_ble_eq_true rfl⟩ (fun o_1 H locs eo_1 hP hD hS => ?_)
  refine lv_if_ne (tgt := 15) hX hB dX9_cannotHit_8 (by decide) (fun c => absurd (by rw [eo_1]; exact hin) c) (fun _ => ?_)
  refine lv_iconst (v := 1) hX hB dX9_cannotHit_11 (by decide) ?_
  refine lv_goto (tgt := 27) hX hB dX9_cannotHit_12 (by decide) ?_
  exact z_iret' () (w' := q_X9_cannotHit4_1 cy h0 h1 h2 h3 h4 h5 h6 h7 h8 h9 v1 v2 v3 v4 v5 v6 v7 v8 v9 v10 v11 g) (r0 := (fun (o : Unit) => 1)) rfl C hRT hP hD hS (Nat.le_of_ble_eq_true rfl) (Nat.le_of_ble_eq_true rfl) rfl rfl dX9_cannotHit_27

def q_X9_cannotHit3_ok (cy : Nat → ClassId) (h0 : Nat) (h1 : Nat) (h2 : Nat) (h3 : Nat) (h4 : Nat) (h5 : Nat) (h6 : Nat) (h7 : Nat) (h8 : Nat) (h9 : Nat) (v1 : Int32) (v2 : Int32) (v3 : Int32) (v4 : Int32) (v5 : Int32) (v6 : Int32) (v7 : Int32) (v8 : Int32) (v9 : Int32) (v10 : Int32) (v11 : Int32) (g : Nat → Int32) (o : Unit) : va_W := [(h0, .inr (11, [.ref h1, .ref h2, .ref h3, .ref h4, .ref h5, .int v1, .int v2, .int v3, .int v4, .int v5, .ref h6, .int v6, .ref h7, .ref h8, .ref h9, .int v7, .int v8, .int v9, .int v10, .int v11])), (h1, .inl (cy 0, 64, .inl (g)))]
set_option maxHeartbeats 4000000 in
set_option maxRecDepth 100000 in
theorem c_X9_cannotHit3_ok (l : Launch) {E : zEn} (hE : zEok E) (D : zG) (cy : Nat → ClassId) (h0 h1 h2 h3 h4 h5 h6 h7 h8 h9 : Nat) (v1 : Int32) (v2 : Int32) (v3 : Int32) (v4 : Int32) (v5 : Int32) (v6 : Int32) (v7 : Int32) (v8 : Int32) (v9 : Int32) (v10 : Int32) (v11 : Int32) (g : Nat → Int32) (x : Int32) (i : Nat) (hx : zi x i) (hxb : i ≤ 2) (hr : g 0 = 1) (sz : Nat) : Met l yX9_cannotHit (zws yX9_cannotHit cX9_cannotHit 3 (some .int)) { frames := 1, cells := 0, slots := 0, locals := 22 } (zPre E D cy [.ref h0, .int x, .int 3] [(h0, .inr (11, [.ref h1, .ref h2, .ref h3, .ref h4, .ref h5, .int v1, .int v2, .int v3, .int v4, .int v5, .ref h6, .int v6, .ref h7, .ref h8, .ref h9, .int v7, .int v8, .int v9, .int v10, .int v11])), (h1, .inl (cy 0, 64, .inl (g)))] sz) (zQi D ((q_X9_cannotHit3_ok cy h0 h1 h2 h3 h4 h5 h6 h7 h8 h9 v1 v2 v3 v4 v5 v6 v7 v8 v9 v10 v11 g) ()) (va_A [(h0, .inr (11, [.ref h1, .ref h2, .ref h3, .ref h4, .ref h5, .int v1, .int v2, .int v3, .int v4, .int v5, .ref h6, .int v6, .ref h7, .ref h8, .ref h9, .int v7, .int v8, .int v9, .int v10, .int v11])), (h1, .inl (cy 0, 64, .inl (g)))] sz) (0)) 0 0 (va_A [(h0, .inr (11, [.ref h1, .ref h2, .ref h3, .ref h4, .ref h5, .int v1, .int v2, .int v3, .int v4, .int v5, .ref h6, .int v6, .ref h7, .ref h8, .ref h9, .int v7, .int v8, .int v9, .int v10, .int v11])), (h1, .inl (cy 0, 64, .inl (g)))] sz) := by
  refine z_of (Qc := fun A => zQi D ((q_X9_cannotHit3_ok cy h0 h1 h2 h3 h4 h5 h6 h7 h8 h9 v1 v2 v3 v4 v5 v6 v7 v8 v9 v10 v11 g) ()) A (0)) (by decide +kernel) (Nat.le_of_ble_eq_true rfl) rfl ?_
  intro pG eN sT mI below meth cO A ls C hRT hnm hA hP hD hS hE0 hl
  have hX := C.x
  have hB := C.b
  refine lv_iload_n hX hB dX9_cannotHit_0 rfl (lv_at hl 1 rfl) ?_
  refine lv_iconst (v := 0) hX hB dX9_cannotHit_1 (by decide) ?_
  refine lv_iload_n hX hB dX9_cannotHit_2 rfl (lv_at hl 2 rfl) ?_
  refine lv_iconst (v := 1) hX hB dX9_cannotHit_3 (by decide) ?_
  refine z_isub (v := 2) C dX9_cannotHit_4 (by decide) ?_
  refine z_callSi (isC := []) (isR := [0, 1]) (isO := [0, 1]) (()) (q_X9_in_t ) (fun o_1 => [(h0, .inr (11, [.ref h1, .ref h2, .ref h3, .ref h4, .ref h5, .int v1, .int v2, .int v3, .int v4, .int v5, .ref h6, .int v6, .ref h7, .ref h8, .ref h9, .int v7, .int v8, .int v9, .int v10, .int v11])), (h1, .inl (cy 0, 64, .inl (g)))]) (fun o_1 => 1) (c_X9_in_t l hE D cy  x i 0 0 2 2 hx (zlit 0) (zlit 2) (by omega) (by omega) (by omega)) hE C zs_X9_127 ⟨Nat.le_of_ble_eq_true rfl, Nat.le_of_ble_eq_true rfl⟩ hP hD hS hA hE0 ⟨rfl, rfl, rfl, by decide, rfl, rfl, rfl⟩ rfl hl.1 (Nat.le_of_ble_eq_true rfl) rfl dX9_cannotHit_5 ⟨Nat.le_of_ble_eq_true rfl, Nat.le_of_ble_eq_true rfl⟩ (fun o_1 H locs eo_1 hP hD hS => ?_)
  refine lv_if_ne (tgt := 15) hX hB dX9_cannotHit_8 (by decide) (fun _ => ?_) (fun c => absurd c (by decide))
  refine lv_aload_n hX hB dX9_cannotHit_15 rfl (lv_at hl 0 rfl) ?_
  refine z_callVi (isC := [0, 1]) (isR := []) (isO := [0, 1]) (()) (q_X9_runs_t cy h0 h1 h2 h3 h4 h5 h6 h7 h8 h9 v1 v2 v3 v4 v5 v6 v7 v8 v9 v10 v11 g) (fun o_2 => [(h0, .inr (11, [.ref h1, .ref h2, .ref h3, .ref h4, .ref h5, .int v1, .int v2, .int v3, .int v4, .int v5, .ref h6, .int v6, .ref h7, .ref h8, .ref h9, .int v7, .int v8, .int v9, .int v10, .int v11])), (h1, .inl (cy 0, 64, .inl (g)))]) (fun o_2 => 1) (c_X9_runs_t l hE D cy h0 h1 h2 h3 h4 h5 h6 h7 h8 h9 v1 v2 v3 v4 v5 v6 v7 v8 v9 v10 v11 g hr) hE C zs_X9_76 ⟨Nat.le_of_ble_eq_true rfl, Nat.le_of_ble_eq_true rfl⟩ hP hD hS hA hE0 ⟨rfl, rfl, rfl, by decide, rfl, rfl, rfl⟩ 0 rfl rfl rfl rfl hl.1 (Nat.le_of_ble_eq_true rfl) rfl dX9_cannotHit_16 ⟨Nat.le_of_ble_eq_true rfl, Nat.le_of_ble_eq_true rfl⟩ (fun o_2 H locs eo_2 hP hD hS => ?_)
  refine lv_if_eq (tgt := 26) hX hB dX9_cannotHit_19 (by decide) (fun c => absurd c (by decide)) (fun _ => ?_)
  refine lv_iconst (v := 0) hX hB dX9_cannotHit_22 (by decide) ?_
  refine lv_goto (tgt := 27) hX hB dX9_cannotHit_23 (by decide) ?_
  exact z_iret' () (w' := q_X9_cannotHit3_ok cy h0 h1 h2 h3 h4 h5 h6 h7 h8 h9 v1 v2 v3 v4 v5 v6 v7 v8 v9 v10 v11 g) (r0 := (fun (o : Unit) => 0)) rfl C hRT hP hD hS (Nat.le_of_ble_eq_true rfl) (Nat.le_of_ble_eq_true rfl) rfl rfl dX9_cannotHit_27

def q_X9_cannotHit3_2 (cy : Nat → ClassId) (h0 : Nat) (h1 : Nat) (h2 : Nat) (h3 : Nat) (h4 : Nat) (h5 : Nat) (h6 : Nat) (h7 : Nat) (h8 : Nat) (h9 : Nat) (v1 : Int32) (v2 : Int32) (v3 : Int32) (v4 : Int32) (v5 : Int32) (v6 : Int32) (v7 : Int32) (v8 : Int32) (v9 : Int32) (v10 : Int32) (v11 : Int32) (g : Nat → Int32) (o : Unit) : va_W := [(h0, .inr (11, [.ref h1, .ref h2, .ref h3, .ref h4, .ref h5, .int v1, .int v2, .int v3, .int v4, .int v5, .ref h6, .int v6, .ref h7, .ref h8, .ref h9, .int v7, .int v8, .int v9, .int v10, .int v11])), (h1, .inl (cy 0, 64, .inl (g)))]
set_option maxHeartbeats 4000000 in
set_option maxRecDepth 100000 in
theorem c_X9_cannotHit3_2 (l : Launch) {E : zEn} (hE : zEok E) (D : zG) (cy : Nat → ClassId) (h0 h1 h2 h3 h4 h5 h6 h7 h8 h9 : Nat) (v1 : Int32) (v2 : Int32) (v3 : Int32) (v4 : Int32) (v5 : Int32) (v6 : Int32) (v7 : Int32) (v8 : Int32) (v9 : Int32) (v10 : Int32) (v11 : Int32) (g : Nat → Int32) (x : Int32) (i : Nat) (hx : zi x i) (hxb : i ≤ 2) (hr : ¬ g 0 = 1) (sz : Nat) : Met l yX9_cannotHit (zws yX9_cannotHit cX9_cannotHit 3 (some .int)) { frames := 1, cells := 0, slots := 0, locals := 22 } (zPre E D cy [.ref h0, .int x, .int 3] [(h0, .inr (11, [.ref h1, .ref h2, .ref h3, .ref h4, .ref h5, .int v1, .int v2, .int v3, .int v4, .int v5, .ref h6, .int v6, .ref h7, .ref h8, .ref h9, .int v7, .int v8, .int v9, .int v10, .int v11])), (h1, .inl (cy 0, 64, .inl (g)))] sz) (zQi D ((q_X9_cannotHit3_2 cy h0 h1 h2 h3 h4 h5 h6 h7 h8 h9 v1 v2 v3 v4 v5 v6 v7 v8 v9 v10 v11 g) ()) (va_A [(h0, .inr (11, [.ref h1, .ref h2, .ref h3, .ref h4, .ref h5, .int v1, .int v2, .int v3, .int v4, .int v5, .ref h6, .int v6, .ref h7, .ref h8, .ref h9, .int v7, .int v8, .int v9, .int v10, .int v11])), (h1, .inl (cy 0, 64, .inl (g)))] sz) (2)) 0 0 (va_A [(h0, .inr (11, [.ref h1, .ref h2, .ref h3, .ref h4, .ref h5, .int v1, .int v2, .int v3, .int v4, .int v5, .ref h6, .int v6, .ref h7, .ref h8, .ref h9, .int v7, .int v8, .int v9, .int v10, .int v11])), (h1, .inl (cy 0, 64, .inl (g)))] sz) := by
  refine z_of (Qc := fun A => zQi D ((q_X9_cannotHit3_2 cy h0 h1 h2 h3 h4 h5 h6 h7 h8 h9 v1 v2 v3 v4 v5 v6 v7 v8 v9 v10 v11 g) ()) A (2)) (by decide +kernel) (Nat.le_of_ble_eq_true rfl) rfl ?_
  intro pG eN sT mI below meth cO A ls C hRT hnm hA hP hD hS hE0 hl
  have hX := C.x
  have hB := C.b
  refine lv_iload_n hX hB dX9_cannotHit_0 rfl (lv_at hl 1 rfl) ?_
  refine lv_iconst (v := 0) hX hB dX9_cannotHit_1 (by decide) ?_
  refine lv_iload_n hX hB dX9_cannotHit_2 rfl (lv_at hl 2 rfl) ?_
  refine lv_iconst (v := 1) hX hB dX9_cannotHit_3 (by decide) ?_
  refine z_isub (v := 2) C dX9_cannotHit_4 (by decide) ?_
  refine z_callSi (isC := []) (isR := [0, 1]) (isO := [0, 1]) (()) (q_X9_in_t ) (fun o_1 => [(h0, .inr (11, [.ref h1, .ref h2, .ref h3, .ref h4, .ref h5, .int v1, .int v2, .int v3, .int v4, .int v5, .ref h6, .int v6, .ref h7, .ref h8, .ref h9, .int v7, .int v8, .int v9, .int v10, .int v11])), (h1, .inl (cy 0, 64, .inl (g)))]) (fun o_1 => 1) (c_X9_in_t l hE D cy  x i 0 0 2 2 hx (zlit 0) (zlit 2) (by omega) (by omega) (by omega)) hE C zs_X9_127 ⟨Nat.le_of_ble_eq_true rfl, Nat.le_of_ble_eq_true rfl⟩ hP hD hS hA hE0 ⟨rfl, rfl, rfl, by decide, rfl, rfl, rfl⟩ rfl hl.1 (Nat.le_of_ble_eq_true rfl) rfl dX9_cannotHit_5 ⟨Nat.le_of_ble_eq_true rfl, Nat.le_of_ble_eq_true rfl⟩ (fun o_1 H locs eo_1 hP hD hS => ?_)
  refine lv_if_ne (tgt := 15) hX hB dX9_cannotHit_8 (by decide) (fun _ => ?_) (fun c => absurd c (by decide))
  refine lv_aload_n hX hB dX9_cannotHit_15 rfl (lv_at hl 0 rfl) ?_
  refine z_callVi (isC := [0, 1]) (isR := []) (isO := [0, 1]) (()) (q_X9_runs_f cy h0 h1 h2 h3 h4 h5 h6 h7 h8 h9 v1 v2 v3 v4 v5 v6 v7 v8 v9 v10 v11 g) (fun o_2 => [(h0, .inr (11, [.ref h1, .ref h2, .ref h3, .ref h4, .ref h5, .int v1, .int v2, .int v3, .int v4, .int v5, .ref h6, .int v6, .ref h7, .ref h8, .ref h9, .int v7, .int v8, .int v9, .int v10, .int v11])), (h1, .inl (cy 0, 64, .inl (g)))]) (fun o_2 => 0) (c_X9_runs_f l hE D cy h0 h1 h2 h3 h4 h5 h6 h7 h8 h9 v1 v2 v3 v4 v5 v6 v7 v8 v9 v10 v11 g hr) hE C zs_X9_76 ⟨Nat.le_of_ble_eq_true rfl, Nat.le_of_ble_eq_true rfl⟩ hP hD hS hA hE0 ⟨rfl, rfl, rfl, by decide, rfl, rfl, rfl⟩ 0 rfl rfl rfl rfl hl.1 (Nat.le_of_ble_eq_true rfl) rfl dX9_cannotHit_16 ⟨Nat.le_of_ble_eq_true rfl, Nat.le_of_ble_eq_true rfl⟩ (fun o_2 H locs eo_2 hP hD hS => ?_)
  refine lv_if_eq (tgt := 26) hX hB dX9_cannotHit_19 (by decide) (fun _ => ?_) (fun c => absurd (by decide) c)
  refine lv_iconst (v := 2) hX hB dX9_cannotHit_26 (by decide) ?_
  exact z_iret' () (w' := q_X9_cannotHit3_2 cy h0 h1 h2 h3 h4 h5 h6 h7 h8 h9 v1 v2 v3 v4 v5 v6 v7 v8 v9 v10 v11 g) (r0 := (fun (o : Unit) => 2)) rfl C hRT hP hD hS (Nat.le_of_ble_eq_true rfl) (Nat.le_of_ble_eq_true rfl) rfl rfl dX9_cannotHit_27

def q_X9_cannotHit3_1 (cy : Nat → ClassId) (h0 : Nat) (h1 : Nat) (h2 : Nat) (h3 : Nat) (h4 : Nat) (h5 : Nat) (h6 : Nat) (h7 : Nat) (h8 : Nat) (h9 : Nat) (v1 : Int32) (v2 : Int32) (v3 : Int32) (v4 : Int32) (v5 : Int32) (v6 : Int32) (v7 : Int32) (v8 : Int32) (v9 : Int32) (v10 : Int32) (v11 : Int32) (g : Nat → Int32) (o : Unit) : va_W := [(h0, .inr (11, [.ref h1, .ref h2, .ref h3, .ref h4, .ref h5, .int v1, .int v2, .int v3, .int v4, .int v5, .ref h6, .int v6, .ref h7, .ref h8, .ref h9, .int v7, .int v8, .int v9, .int v10, .int v11])), (h1, .inl (cy 0, 64, .inl (g)))]
set_option maxHeartbeats 4000000 in
set_option maxRecDepth 100000 in
theorem c_X9_cannotHit3_1 (l : Launch) {E : zEn} (hE : zEok E) (D : zG) (cy : Nat → ClassId) (h0 h1 h2 h3 h4 h5 h6 h7 h8 h9 : Nat) (v1 : Int32) (v2 : Int32) (v3 : Int32) (v4 : Int32) (v5 : Int32) (v6 : Int32) (v7 : Int32) (v8 : Int32) (v9 : Int32) (v10 : Int32) (v11 : Int32) (g : Nat → Int32) (x : Int32) (hin : n_X9_in x 0 2 = 0) (sz : Nat) : Met l yX9_cannotHit (zws yX9_cannotHit cX9_cannotHit 3 (some .int)) { frames := 1, cells := 0, slots := 0, locals := 22 } (zPre E D cy [.ref h0, .int x, .int 3] [(h0, .inr (11, [.ref h1, .ref h2, .ref h3, .ref h4, .ref h5, .int v1, .int v2, .int v3, .int v4, .int v5, .ref h6, .int v6, .ref h7, .ref h8, .ref h9, .int v7, .int v8, .int v9, .int v10, .int v11])), (h1, .inl (cy 0, 64, .inl (g)))] sz) (zQi D ((q_X9_cannotHit3_1 cy h0 h1 h2 h3 h4 h5 h6 h7 h8 h9 v1 v2 v3 v4 v5 v6 v7 v8 v9 v10 v11 g) ()) (va_A [(h0, .inr (11, [.ref h1, .ref h2, .ref h3, .ref h4, .ref h5, .int v1, .int v2, .int v3, .int v4, .int v5, .ref h6, .int v6, .ref h7, .ref h8, .ref h9, .int v7, .int v8, .int v9, .int v10, .int v11])), (h1, .inl (cy 0, 64, .inl (g)))] sz) (1)) 0 0 (va_A [(h0, .inr (11, [.ref h1, .ref h2, .ref h3, .ref h4, .ref h5, .int v1, .int v2, .int v3, .int v4, .int v5, .ref h6, .int v6, .ref h7, .ref h8, .ref h9, .int v7, .int v8, .int v9, .int v10, .int v11])), (h1, .inl (cy 0, 64, .inl (g)))] sz) := by
  refine z_of (Qc := fun A => zQi D ((q_X9_cannotHit3_1 cy h0 h1 h2 h3 h4 h5 h6 h7 h8 h9 v1 v2 v3 v4 v5 v6 v7 v8 v9 v10 v11 g) ()) A (1)) (by decide +kernel) (Nat.le_of_ble_eq_true rfl) rfl ?_
  intro pG eN sT mI below meth cO A ls C hRT hnm hA hP hD hS hE0 hl
  have hX := C.x
  have hB := C.b
  refine lv_iload_n hX hB dX9_cannotHit_0 rfl (lv_at hl 1 rfl) ?_
  refine lv_iconst (v := 0) hX hB dX9_cannotHit_1 (by decide) ?_
  refine lv_iload_n hX hB dX9_cannotHit_2 rfl (lv_at hl 2 rfl) ?_
  refine lv_iconst (v := 1) hX hB dX9_cannotHit_3 (by decide) ?_
  refine z_isub (v := 2) C dX9_cannotHit_4 (by decide) ?_
  refine z_callSi (isC := []) (isR := [0, 1]) (isO := [0, 1]) (n_X9_in x 0 2) (q_X9_in ) (fun o_1 => [(h0, .inr (11, [.ref h1, .ref h2, .ref h3, .ref h4, .ref h5, .int v1, .int v2, .int v3, .int v4, .int v5, .ref h6, .int v6, .ref h7, .ref h8, .ref h9, .int v7, .int v8, .int v9, .int v10, .int v11])), (h1, .inl (cy 0, 64, .inl (g)))]) (fun o_1 => o_1) (c_X9_in l hE D cy  x 0 2 ) hE C zs_X9_127 ⟨Nat.le_of_ble_eq_true rfl, Nat.le_of_ble_eq_true rfl⟩ hP hD hS hA hE0 ⟨rfl, rfl, rfl, by decide, rfl, rfl, rfl⟩ rfl hl.1 (Nat.le_of_ble_eq_true rfl) rfl dX9_cannotHit_5 ⟨Nat.le_of_ble_eq_true rfl, Nat.le_of_ble_eq_true rfl⟩ (fun o_1 H locs eo_1 hP hD hS => ?_)
  refine lv_if_ne (tgt := 15) hX hB dX9_cannotHit_8 (by decide) (fun c => absurd (by rw [eo_1]; exact hin) c) (fun _ => ?_)
  refine lv_iconst (v := 1) hX hB dX9_cannotHit_11 (by decide) ?_
  refine lv_goto (tgt := 27) hX hB dX9_cannotHit_12 (by decide) ?_
  exact z_iret' () (w' := q_X9_cannotHit3_1 cy h0 h1 h2 h3 h4 h5 h6 h7 h8 h9 v1 v2 v3 v4 v5 v6 v7 v8 v9 v10 v11 g) (r0 := (fun (o : Unit) => 1)) rfl C hRT hP hD hS (Nat.le_of_ble_eq_true rfl) (Nat.le_of_ble_eq_true rfl) rfl rfl dX9_cannotHit_27

def q_X9_cannotHit5_ok (cy : Nat → ClassId) (h0 : Nat) (h1 : Nat) (h2 : Nat) (h3 : Nat) (h4 : Nat) (h5 : Nat) (h6 : Nat) (h7 : Nat) (h8 : Nat) (h9 : Nat) (v1 : Int32) (v2 : Int32) (v3 : Int32) (v4 : Int32) (v5 : Int32) (v6 : Int32) (v7 : Int32) (v8 : Int32) (v9 : Int32) (v10 : Int32) (v11 : Int32) (g : Nat → Int32) (o : Unit) : va_W := [(h0, .inr (11, [.ref h1, .ref h2, .ref h3, .ref h4, .ref h5, .int v1, .int v2, .int v3, .int v4, .int v5, .ref h6, .int v6, .ref h7, .ref h8, .ref h9, .int v7, .int v8, .int v9, .int v10, .int v11])), (h1, .inl (cy 0, 64, .inl (g)))]
set_option maxHeartbeats 4000000 in
set_option maxRecDepth 100000 in
theorem c_X9_cannotHit5_ok (l : Launch) {E : zEn} (hE : zEok E) (D : zG) (cy : Nat → ClassId) (h0 h1 h2 h3 h4 h5 h6 h7 h8 h9 : Nat) (v1 : Int32) (v2 : Int32) (v3 : Int32) (v4 : Int32) (v5 : Int32) (v6 : Int32) (v7 : Int32) (v8 : Int32) (v9 : Int32) (v10 : Int32) (v11 : Int32) (g : Nat → Int32) (x : Int32) (i : Nat) (hx : zi x i) (hxb : i ≤ 4) (hr : g 0 = 1) (sz : Nat) : Met l yX9_cannotHit (zws yX9_cannotHit cX9_cannotHit 3 (some .int)) { frames := 1, cells := 0, slots := 0, locals := 22 } (zPre E D cy [.ref h0, .int x, .int 5] [(h0, .inr (11, [.ref h1, .ref h2, .ref h3, .ref h4, .ref h5, .int v1, .int v2, .int v3, .int v4, .int v5, .ref h6, .int v6, .ref h7, .ref h8, .ref h9, .int v7, .int v8, .int v9, .int v10, .int v11])), (h1, .inl (cy 0, 64, .inl (g)))] sz) (zQi D ((q_X9_cannotHit5_ok cy h0 h1 h2 h3 h4 h5 h6 h7 h8 h9 v1 v2 v3 v4 v5 v6 v7 v8 v9 v10 v11 g) ()) (va_A [(h0, .inr (11, [.ref h1, .ref h2, .ref h3, .ref h4, .ref h5, .int v1, .int v2, .int v3, .int v4, .int v5, .ref h6, .int v6, .ref h7, .ref h8, .ref h9, .int v7, .int v8, .int v9, .int v10, .int v11])), (h1, .inl (cy 0, 64, .inl (g)))] sz) (0)) 0 0 (va_A [(h0, .inr (11, [.ref h1, .ref h2, .ref h3, .ref h4, .ref h5, .int v1, .int v2, .int v3, .int v4, .int v5, .ref h6, .int v6, .ref h7, .ref h8, .ref h9, .int v7, .int v8, .int v9, .int v10, .int v11])), (h1, .inl (cy 0, 64, .inl (g)))] sz) := by
  refine z_of (Qc := fun A => zQi D ((q_X9_cannotHit5_ok cy h0 h1 h2 h3 h4 h5 h6 h7 h8 h9 v1 v2 v3 v4 v5 v6 v7 v8 v9 v10 v11 g) ()) A (0)) (by decide +kernel) (Nat.le_of_ble_eq_true rfl) rfl ?_
  intro pG eN sT mI below meth cO A ls C hRT hnm hA hP hD hS hE0 hl
  have hX := C.x
  have hB := C.b
  refine lv_iload_n hX hB dX9_cannotHit_0 rfl (lv_at hl 1 rfl) ?_
  refine lv_iconst (v := 0) hX hB dX9_cannotHit_1 (by decide) ?_
  refine lv_iload_n hX hB dX9_cannotHit_2 rfl (lv_at hl 2 rfl) ?_
  refine lv_iconst (v := 1) hX hB dX9_cannotHit_3 (by decide) ?_
  refine z_isub (v := 4) C dX9_cannotHit_4 (by decide) ?_
  refine z_callSi (isC := []) (isR := [0, 1]) (isO := [0, 1]) (()) (q_X9_in_t ) (fun o_1 => [(h0, .inr (11, [.ref h1, .ref h2, .ref h3, .ref h4, .ref h5, .int v1, .int v2, .int v3, .int v4, .int v5, .ref h6, .int v6, .ref h7, .ref h8, .ref h9, .int v7, .int v8, .int v9, .int v10, .int v11])), (h1, .inl (cy 0, 64, .inl (g)))]) (fun o_1 => 1) (c_X9_in_t l hE D cy  x i 0 0 4 4 hx (zlit 0) (zlit 4) (by omega) (by omega) (by omega)) hE C zs_X9_127 ⟨Nat.le_of_ble_eq_true rfl, Nat.le_of_ble_eq_true rfl⟩ hP hD hS hA hE0 ⟨rfl, rfl, rfl, by decide, rfl, rfl, rfl⟩ rfl hl.1 (Nat.le_of_ble_eq_true rfl) rfl dX9_cannotHit_5 ⟨Nat.le_of_ble_eq_true rfl, Nat.le_of_ble_eq_true rfl⟩ (fun o_1 H locs eo_1 hP hD hS => ?_)
  refine lv_if_ne (tgt := 15) hX hB dX9_cannotHit_8 (by decide) (fun _ => ?_) (fun c => absurd c (by decide))
  refine lv_aload_n hX hB dX9_cannotHit_15 rfl (lv_at hl 0 rfl) ?_
  refine z_callVi (isC := [0, 1]) (isR := []) (isO := [0, 1]) (()) (q_X9_runs_t cy h0 h1 h2 h3 h4 h5 h6 h7 h8 h9 v1 v2 v3 v4 v5 v6 v7 v8 v9 v10 v11 g) (fun o_2 => [(h0, .inr (11, [.ref h1, .ref h2, .ref h3, .ref h4, .ref h5, .int v1, .int v2, .int v3, .int v4, .int v5, .ref h6, .int v6, .ref h7, .ref h8, .ref h9, .int v7, .int v8, .int v9, .int v10, .int v11])), (h1, .inl (cy 0, 64, .inl (g)))]) (fun o_2 => 1) (c_X9_runs_t l hE D cy h0 h1 h2 h3 h4 h5 h6 h7 h8 h9 v1 v2 v3 v4 v5 v6 v7 v8 v9 v10 v11 g hr) hE C zs_X9_76 ⟨Nat.le_of_ble_eq_true rfl, Nat.le_of_ble_eq_true rfl⟩ hP hD hS hA hE0 ⟨rfl, rfl, rfl, by decide, rfl, rfl, rfl⟩ 0 rfl rfl rfl rfl hl.1 (Nat.le_of_ble_eq_true rfl) rfl dX9_cannotHit_16 ⟨Nat.le_of_ble_eq_true rfl, Nat.le_of_ble_eq_true rfl⟩ (fun o_2 H locs eo_2 hP hD hS => ?_)
  refine lv_if_eq (tgt := 26) hX hB dX9_cannotHit_19 (by decide) (fun c => absurd c (by decide)) (fun _ => ?_)
  refine lv_iconst (v := 0) hX hB dX9_cannotHit_22 (by decide) ?_
  refine lv_goto (tgt := 27) hX hB dX9_cannotHit_23 (by decide) ?_
  exact z_iret' () (w' := q_X9_cannotHit5_ok cy h0 h1 h2 h3 h4 h5 h6 h7 h8 h9 v1 v2 v3 v4 v5 v6 v7 v8 v9 v10 v11 g) (r0 := (fun (o : Unit) => 0)) rfl C hRT hP hD hS (Nat.le_of_ble_eq_true rfl) (Nat.le_of_ble_eq_true rfl) rfl rfl dX9_cannotHit_27

def q_X9_cannotHit5_2 (cy : Nat → ClassId) (h0 : Nat) (h1 : Nat) (h2 : Nat) (h3 : Nat) (h4 : Nat) (h5 : Nat) (h6 : Nat) (h7 : Nat) (h8 : Nat) (h9 : Nat) (v1 : Int32) (v2 : Int32) (v3 : Int32) (v4 : Int32) (v5 : Int32) (v6 : Int32) (v7 : Int32) (v8 : Int32) (v9 : Int32) (v10 : Int32) (v11 : Int32) (g : Nat → Int32) (o : Unit) : va_W := [(h0, .inr (11, [.ref h1, .ref h2, .ref h3, .ref h4, .ref h5, .int v1, .int v2, .int v3, .int v4, .int v5, .ref h6, .int v6, .ref h7, .ref h8, .ref h9, .int v7, .int v8, .int v9, .int v10, .int v11])), (h1, .inl (cy 0, 64, .inl (g)))]
set_option maxHeartbeats 4000000 in
set_option maxRecDepth 100000 in
theorem c_X9_cannotHit5_2 (l : Launch) {E : zEn} (hE : zEok E) (D : zG) (cy : Nat → ClassId) (h0 h1 h2 h3 h4 h5 h6 h7 h8 h9 : Nat) (v1 : Int32) (v2 : Int32) (v3 : Int32) (v4 : Int32) (v5 : Int32) (v6 : Int32) (v7 : Int32) (v8 : Int32) (v9 : Int32) (v10 : Int32) (v11 : Int32) (g : Nat → Int32) (x : Int32) (i : Nat) (hx : zi x i) (hxb : i ≤ 4) (hr : ¬ g 0 = 1) (sz : Nat) : Met l yX9_cannotHit (zws yX9_cannotHit cX9_cannotHit 3 (some .int)) { frames := 1, cells := 0, slots := 0, locals := 22 } (zPre E D cy [.ref h0, .int x, .int 5] [(h0, .inr (11, [.ref h1, .ref h2, .ref h3, .ref h4, .ref h5, .int v1, .int v2, .int v3, .int v4, .int v5, .ref h6, .int v6, .ref h7, .ref h8, .ref h9, .int v7, .int v8, .int v9, .int v10, .int v11])), (h1, .inl (cy 0, 64, .inl (g)))] sz) (zQi D ((q_X9_cannotHit5_2 cy h0 h1 h2 h3 h4 h5 h6 h7 h8 h9 v1 v2 v3 v4 v5 v6 v7 v8 v9 v10 v11 g) ()) (va_A [(h0, .inr (11, [.ref h1, .ref h2, .ref h3, .ref h4, .ref h5, .int v1, .int v2, .int v3, .int v4, .int v5, .ref h6, .int v6, .ref h7, .ref h8, .ref h9, .int v7, .int v8, .int v9, .int v10, .int v11])), (h1, .inl (cy 0, 64, .inl (g)))] sz) (2)) 0 0 (va_A [(h0, .inr (11, [.ref h1, .ref h2, .ref h3, .ref h4, .ref h5, .int v1, .int v2, .int v3, .int v4, .int v5, .ref h6, .int v6, .ref h7, .ref h8, .ref h9, .int v7, .int v8, .int v9, .int v10, .int v11])), (h1, .inl (cy 0, 64, .inl (g)))] sz) := by
  refine z_of (Qc := fun A => zQi D ((q_X9_cannotHit5_2 cy h0 h1 h2 h3 h4 h5 h6 h7 h8 h9 v1 v2 v3 v4 v5 v6 v7 v8 v9 v10 v11 g) ()) A (2)) (by decide +kernel) (Nat.le_of_ble_eq_true rfl) rfl ?_
  intro pG eN sT mI below meth cO A ls C hRT hnm hA hP hD hS hE0 hl
  have hX := C.x
  have hB := C.b
  refine lv_iload_n hX hB dX9_cannotHit_0 rfl (lv_at hl 1 rfl) ?_
  refine lv_iconst (v := 0) hX hB dX9_cannotHit_1 (by decide) ?_
  refine lv_iload_n hX hB dX9_cannotHit_2 rfl (lv_at hl 2 rfl) ?_
  refine lv_iconst (v := 1) hX hB dX9_cannotHit_3 (by decide) ?_
  refine z_isub (v := 4) C dX9_cannotHit_4 (by decide) ?_
  refine z_callSi (isC := []) (isR := [0, 1]) (isO := [0, 1]) (()) (q_X9_in_t ) (fun o_1 => [(h0, .inr (11, [.ref h1, .ref h2, .ref h3, .ref h4, .ref h5, .int v1, .int v2, .int v3, .int v4, .int v5, .ref h6, .int v6, .ref h7, .ref h8, .ref h9, .int v7, .int v8, .int v9, .int v10, .int v11])), (h1, .inl (cy 0, 64, .inl (g)))]) (fun o_1 => 1) (c_X9_in_t l hE D cy  x i 0 0 4 4 hx (zlit 0) (zlit 4) (by omega) (by omega) (by omega)) hE C zs_X9_127 ⟨Nat.le_of_ble_eq_true rfl, Nat.le_of_ble_eq_true rfl⟩ hP hD hS hA hE0 ⟨rfl, rfl, rfl, by decide, rfl, rfl, rfl⟩ rfl hl.1 (Nat.le_of_ble_eq_true rfl) rfl dX9_cannotHit_5 ⟨Nat.le_of_ble_eq_true rfl, Nat.le_of_ble_eq_true rfl⟩ (fun o_1 H locs eo_1 hP hD hS => ?_)
  refine lv_if_ne (tgt := 15) hX hB dX9_cannotHit_8 (by decide) (fun _ => ?_) (fun c => absurd c (by decide))
  refine lv_aload_n hX hB dX9_cannotHit_15 rfl (lv_at hl 0 rfl) ?_
  refine z_callVi (isC := [0, 1]) (isR := []) (isO := [0, 1]) (()) (q_X9_runs_f cy h0 h1 h2 h3 h4 h5 h6 h7 h8 h9 v1 v2 v3 v4 v5 v6 v7 v8 v9 v10 v11 g) (fun o_2 => [(h0, .inr (11, [.ref h1, .ref h2, .ref h3, .ref h4, .ref h5, .int v1, .int v2, .int v3, .int v4, .int v5, .ref h6, .int v6, .ref h7, .ref h8, .ref h9, .int v7, .int v8, .int v9, .int v10, .int v11])), (h1, .inl (cy 0, 64, .inl (g)))]) (fun o_2 => 0) (c_X9_runs_f l hE D cy h0 h1 h2 h3 h4 h5 h6 h7 h8 h9 v1 v2 v3 v4 v5 v6 v7 v8 v9 v10 v11 g hr) hE C zs_X9_76 ⟨Nat.le_of_ble_eq_true rfl, Nat.le_of_ble_eq_true rfl⟩ hP hD hS hA hE0 ⟨rfl, rfl, rfl, by decide, rfl, rfl, rfl⟩ 0 rfl rfl rfl rfl hl.1 (Nat.le_of_ble_eq_true rfl) rfl dX9_cannotHit_16 ⟨Nat.le_of_ble_eq_true rfl, Nat.le_of_ble_eq_true rfl⟩ (fun o_2 H locs eo_2 hP hD hS => ?_)
  refine lv_if_eq (tgt := 26) hX hB dX9_cannotHit_19 (by decide) (fun _ => ?_) (fun c => absurd (by decide) c)
  refine lv_iconst (v := 2) hX hB dX9_cannotHit_26 (by decide) ?_
  exact z_iret' () (w' := q_X9_cannotHit5_2 cy h0 h1 h2 h3 h4 h5 h6 h7 h8 h9 v1 v2 v3 v4 v5 v6 v7 v8 v9 v10 v11 g) (r0 := (fun (o : Unit) => 2)) rfl C hRT hP hD hS (Nat.le_of_ble_eq_true rfl) (Nat.le_of_ble_eq_true rfl) rfl rfl dX9_cannotHit_27

def q_X9_cannotHit5_1 (cy : Nat → ClassId) (h0 : Nat) (h1 : Nat) (h2 : Nat) (h3 : Nat) (h4 : Nat) (h5 : Nat) (h6 : Nat) (h7 : Nat) (h8 : Nat) (h9 : Nat) (v1 : Int32) (v2 : Int32) (v3 : Int32) (v4 : Int32) (v5 : Int32) (v6 : Int32) (v7 : Int32) (v8 : Int32) (v9 : Int32) (v10 : Int32) (v11 : Int32) (g : Nat → Int32) (o : Unit) : va_W := [(h0, .inr (11, [.ref h1, .ref h2, .ref h3, .ref h4, .ref h5, .int v1, .int v2, .int v3, .int v4, .int v5, .ref h6, .int v6, .ref h7, .ref h8, .ref h9, .int v7, .int v8, .int v9, .int v10, .int v11])), (h1, .inl (cy 0, 64, .inl (g)))]
set_option maxHeartbeats 4000000 in
set_option maxRecDepth 100000 in
theorem c_X9_cannotHit5_1 (l : Launch) {E : zEn} (hE : zEok E) (D : zG) (cy : Nat → ClassId) (h0 h1 h2 h3 h4 h5 h6 h7 h8 h9 : Nat) (v1 : Int32) (v2 : Int32) (v3 : Int32) (v4 : Int32) (v5 : Int32) (v6 : Int32) (v7 : Int32) (v8 : Int32) (v9 : Int32) (v10 : Int32) (v11 : Int32) (g : Nat → Int32) (x : Int32) (hin : n_X9_in x 0 4 = 0) (sz : Nat) : Met l yX9_cannotHit (zws yX9_cannotHit cX9_cannotHit 3 (some .int)) { frames := 1, cells := 0, slots := 0, locals := 22 } (zPre E D cy [.ref h0, .int x, .int 5] [(h0, .inr (11, [.ref h1, .ref h2, .ref h3, .ref h4, .ref h5, .int v1, .int v2, .int v3, .int v4, .int v5, .ref h6, .int v6, .ref h7, .ref h8, .ref h9, .int v7, .int v8, .int v9, .int v10, .int v11])), (h1, .inl (cy 0, 64, .inl (g)))] sz) (zQi D ((q_X9_cannotHit5_1 cy h0 h1 h2 h3 h4 h5 h6 h7 h8 h9 v1 v2 v3 v4 v5 v6 v7 v8 v9 v10 v11 g) ()) (va_A [(h0, .inr (11, [.ref h1, .ref h2, .ref h3, .ref h4, .ref h5, .int v1, .int v2, .int v3, .int v4, .int v5, .ref h6, .int v6, .ref h7, .ref h8, .ref h9, .int v7, .int v8, .int v9, .int v10, .int v11])), (h1, .inl (cy 0, 64, .inl (g)))] sz) (1)) 0 0 (va_A [(h0, .inr (11, [.ref h1, .ref h2, .ref h3, .ref h4, .ref h5, .int v1, .int v2, .int v3, .int v4, .int v5, .ref h6, .int v6, .ref h7, .ref h8, .ref h9, .int v7, .int v8, .int v9, .int v10, .int v11])), (h1, .inl (cy 0, 64, .inl (g)))] sz) := by
  refine z_of (Qc := fun A => zQi D ((q_X9_cannotHit5_1 cy h0 h1 h2 h3 h4 h5 h6 h7 h8 h9 v1 v2 v3 v4 v5 v6 v7 v8 v9 v10 v11 g) ()) A (1)) (by decide +kernel) (Nat.le_of_ble_eq_true rfl) rfl ?_
  intro pG eN sT mI below meth cO A ls C hRT hnm hA hP hD hS hE0 hl
  have hX := C.x
  have hB := C.b
  refine lv_iload_n hX hB dX9_cannotHit_0 rfl (lv_at hl 1 rfl) ?_
  refine lv_iconst (v := 0) hX hB dX9_cannotHit_1 (by decide) ?_
  refine lv_iload_n hX hB dX9_cannotHit_2 rfl (lv_at hl 2 rfl) ?_
  refine lv_iconst (v := 1) hX hB dX9_cannotHit_3 (by decide) ?_
  refine z_isub (v := 4) C dX9_cannotHit_4 (by decide) ?_
  refine z_callSi (isC := []) (isR := [0, 1]) (isO := [0, 1]) (n_X9_in x 0 4) (q_X9_in ) (fun o_1 => [(h0, .inr (11, [.ref h1, .ref h2, .ref h3, .ref h4, .ref h5, .int v1, .int v2, .int v3, .int v4, .int v5, .ref h6, .int v6, .ref h7, .ref h8, .ref h9, .int v7, .int v8, .int v9, .int v10, .int v11])), (h1, .inl (cy 0, 64, .inl (g)))]) (fun o_1 => o_1) (c_X9_in l hE D cy  x 0 4 ) hE C zs_X9_127 ⟨Nat.le_of_ble_eq_true rfl, Nat.le_of_ble_eq_true rfl⟩ hP hD hS hA hE0 ⟨rfl, rfl, rfl, by decide, rfl, rfl, rfl⟩ rfl hl.1 (Nat.le_of_ble_eq_true rfl) rfl dX9_cannotHit_5 ⟨Nat.le_of_ble_eq_true rfl, Nat.le_of_ble_eq_true rfl⟩ (fun o_1 H locs eo_1 hP hD hS => ?_)
  refine lv_if_ne (tgt := 15) hX hB dX9_cannotHit_8 (by decide) (fun c => absurd (by rw [eo_1]; exact hin) c) (fun _ => ?_)
  refine lv_iconst (v := 1) hX hB dX9_cannotHit_11 (by decide) ?_
  refine lv_goto (tgt := 27) hX hB dX9_cannotHit_12 (by decide) ?_
  exact z_iret' () (w' := q_X9_cannotHit5_1 cy h0 h1 h2 h3 h4 h5 h6 h7 h8 h9 v1 v2 v3 v4 v5 v6 v7 v8 v9 v10 v11 g) (r0 := (fun (o : Unit) => 1)) rfl C hRT hP hD hS (Nat.le_of_ble_eq_true rfl) (Nat.le_of_ble_eq_true rfl) rfl rfl dX9_cannotHit_27

def q_X9_cannotNudge_ok (cy : Nat → ClassId) (h0 : Nat) (h1 : Nat) (h2 : Nat) (h3 : Nat) (h4 : Nat) (h5 : Nat) (h6 : Nat) (h7 : Nat) (h8 : Nat) (h9 : Nat) (v1 : Int32) (v2 : Int32) (v3 : Int32) (v4 : Int32) (v5 : Int32) (v6 : Int32) (v7 : Int32) (v8 : Int32) (v9 : Int32) (v10 : Int32) (v11 : Int32) (g : Nat → Int32) (o : Unit) : va_W := [(h0, .inr (11, [.ref h1, .ref h2, .ref h3, .ref h4, .ref h5, .int v1, .int v2, .int v3, .int v4, .int v5, .ref h6, .int v6, .ref h7, .ref h8, .ref h9, .int v7, .int v8, .int v9, .int v10, .int v11])), (h1, .inl (cy 0, 64, .inl (g)))]
set_option maxHeartbeats 4000000 in
set_option maxRecDepth 100000 in
theorem c_X9_cannotNudge_ok (l : Launch) {E : zEn} (hE : zEok E) (D : zG) (cy : Nat → ClassId) (h0 h1 h2 h3 h4 h5 h6 h7 h8 h9 : Nat) (v1 : Int32) (v2 : Int32) (v3 : Int32) (v4 : Int32) (v5 : Int32) (v6 : Int32) (v7 : Int32) (v8 : Int32) (v9 : Int32) (v10 : Int32) (v11 : Int32) (g : Nat → Int32) (x : Int32) (i : Nat) (hx : zi x i) (hxb : i ≤ 3) (hxa : 1 ≤ i) (hr : g 0 = 1) (sz : Nat) : Met l yX9_cannotNudge (zws yX9_cannotNudge cX9_cannotNudge 2 (some .int)) { frames := 1, cells := 0, slots := 0, locals := 22 } (zPre E D cy [.ref h0, .int x] [(h0, .inr (11, [.ref h1, .ref h2, .ref h3, .ref h4, .ref h5, .int v1, .int v2, .int v3, .int v4, .int v5, .ref h6, .int v6, .ref h7, .ref h8, .ref h9, .int v7, .int v8, .int v9, .int v10, .int v11])), (h1, .inl (cy 0, 64, .inl (g)))] sz) (zQi D ((q_X9_cannotNudge_ok cy h0 h1 h2 h3 h4 h5 h6 h7 h8 h9 v1 v2 v3 v4 v5 v6 v7 v8 v9 v10 v11 g) ()) (va_A [(h0, .inr (11, [.ref h1, .ref h2, .ref h3, .ref h4, .ref h5, .int v1, .int v2, .int v3, .int v4, .int v5, .ref h6, .int v6, .ref h7, .ref h8, .ref h9, .int v7, .int v8, .int v9, .int v10, .int v11])), (h1, .inl (cy 0, 64, .inl (g)))] sz) (0)) 0 0 (va_A [(h0, .inr (11, [.ref h1, .ref h2, .ref h3, .ref h4, .ref h5, .int v1, .int v2, .int v3, .int v4, .int v5, .ref h6, .int v6, .ref h7, .ref h8, .ref h9, .int v7, .int v8, .int v9, .int v10, .int v11])), (h1, .inl (cy 0, 64, .inl (g)))] sz) := by
  refine z_of (Qc := fun A => zQi D ((q_X9_cannotNudge_ok cy h0 h1 h2 h3 h4 h5 h6 h7 h8 h9 v1 v2 v3 v4 v5 v6 v7 v8 v9 v10 v11 g) ()) A (0)) (by decide +kernel) (Nat.le_of_ble_eq_true rfl) rfl ?_
  intro pG eN sT mI below meth cO A ls C hRT hnm hA hP hD hS hE0 hl
  have hX := C.x
  have hB := C.b
  refine lv_iload_n hX hB dX9_cannotNudge_0 rfl (lv_at hl 1 rfl) ?_
  refine lv_iconst (v := 1) hX hB dX9_cannotNudge_1 (by decide) ?_
  refine lv_iconst (v := 3) hX hB dX9_cannotNudge_2 (by decide) ?_
  refine z_callSi (isC := []) (isR := [0, 1]) (isO := [0, 1]) (()) (q_X9_in_t ) (fun o_1 => [(h0, .inr (11, [.ref h1, .ref h2, .ref h3, .ref h4, .ref h5, .int v1, .int v2, .int v3, .int v4, .int v5, .ref h6, .int v6, .ref h7, .ref h8, .ref h9, .int v7, .int v8, .int v9, .int v10, .int v11])), (h1, .inl (cy 0, 64, .inl (g)))]) (fun o_1 => 1) (c_X9_in_t l hE D cy  x i 1 1 3 3 hx (zlit 1) (zlit 3) (by omega) (by omega) (by omega)) hE C zs_X9_127 ⟨Nat.le_of_ble_eq_true rfl, Nat.le_of_ble_eq_true rfl⟩ hP hD hS hA hE0 ⟨rfl, rfl, rfl, by decide, rfl, rfl, rfl⟩ rfl hl.1 (Nat.le_of_ble_eq_true rfl) rfl dX9_cannotNudge_3 ⟨Nat.le_of_ble_eq_true rfl, Nat.le_of_ble_eq_true rfl⟩ (fun o_1 H locs eo_1 hP hD hS => ?_)
  refine lv_if_ne (tgt := 13) hX hB dX9_cannotNudge_6 (by decide) (fun _ => ?_) (fun c => absurd c (by decide))
  refine lv_aload_n hX hB dX9_cannotNudge_13 rfl (lv_at hl 0 rfl) ?_
  refine z_callVi (isC := [0, 1]) (isR := []) (isO := [0, 1]) (()) (q_X9_runs_t cy h0 h1 h2 h3 h4 h5 h6 h7 h8 h9 v1 v2 v3 v4 v5 v6 v7 v8 v9 v10 v11 g) (fun o_2 => [(h0, .inr (11, [.ref h1, .ref h2, .ref h3, .ref h4, .ref h5, .int v1, .int v2, .int v3, .int v4, .int v5, .ref h6, .int v6, .ref h7, .ref h8, .ref h9, .int v7, .int v8, .int v9, .int v10, .int v11])), (h1, .inl (cy 0, 64, .inl (g)))]) (fun o_2 => 1) (c_X9_runs_t l hE D cy h0 h1 h2 h3 h4 h5 h6 h7 h8 h9 v1 v2 v3 v4 v5 v6 v7 v8 v9 v10 v11 g hr) hE C zs_X9_76 ⟨Nat.le_of_ble_eq_true rfl, Nat.le_of_ble_eq_true rfl⟩ hP hD hS hA hE0 ⟨rfl, rfl, rfl, by decide, rfl, rfl, rfl⟩ 0 rfl rfl rfl rfl hl.1 (Nat.le_of_ble_eq_true rfl) rfl dX9_cannotNudge_14 ⟨Nat.le_of_ble_eq_true rfl, Nat.le_of_ble_eq_true rfl⟩ (fun o_2 H locs eo_2 hP hD hS => ?_)
  refine lv_if_eq (tgt := 24) hX hB dX9_cannotNudge_17 (by decide) (fun c => absurd c (by decide)) (fun _ => ?_)
  refine lv_iconst (v := 0) hX hB dX9_cannotNudge_20 (by decide) ?_
  refine lv_goto (tgt := 25) hX hB dX9_cannotNudge_21 (by decide) ?_
  exact z_iret' () (w' := q_X9_cannotNudge_ok cy h0 h1 h2 h3 h4 h5 h6 h7 h8 h9 v1 v2 v3 v4 v5 v6 v7 v8 v9 v10 v11 g) (r0 := (fun (o : Unit) => 0)) rfl C hRT hP hD hS (Nat.le_of_ble_eq_true rfl) (Nat.le_of_ble_eq_true rfl) rfl rfl dX9_cannotNudge_25

def q_X9_cannotNudge_2 (cy : Nat → ClassId) (h0 : Nat) (h1 : Nat) (h2 : Nat) (h3 : Nat) (h4 : Nat) (h5 : Nat) (h6 : Nat) (h7 : Nat) (h8 : Nat) (h9 : Nat) (v1 : Int32) (v2 : Int32) (v3 : Int32) (v4 : Int32) (v5 : Int32) (v6 : Int32) (v7 : Int32) (v8 : Int32) (v9 : Int32) (v10 : Int32) (v11 : Int32) (g : Nat → Int32) (o : Unit) : va_W := [(h0, .inr (11, [.ref h1, .ref h2, .ref h3, .ref h4, .ref h5, .int v1, .int v2, .int v3, .int v4, .int v5, .ref h6, .int v6, .ref h7, .ref h8, .ref h9, .int v7, .int v8, .int v9, .int v10, .int v11])), (h1, .inl (cy 0, 64, .inl (g)))]
set_option maxHeartbeats 4000000 in
set_option maxRecDepth 100000 in
theorem c_X9_cannotNudge_2 (l : Launch) {E : zEn} (hE : zEok E) (D : zG) (cy : Nat → ClassId) (h0 h1 h2 h3 h4 h5 h6 h7 h8 h9 : Nat) (v1 : Int32) (v2 : Int32) (v3 : Int32) (v4 : Int32) (v5 : Int32) (v6 : Int32) (v7 : Int32) (v8 : Int32) (v9 : Int32) (v10 : Int32) (v11 : Int32) (g : Nat → Int32) (x : Int32) (i : Nat) (hx : zi x i) (hxb : i ≤ 3) (hxa : 1 ≤ i) (hr : ¬ g 0 = 1) (sz : Nat) : Met l yX9_cannotNudge (zws yX9_cannotNudge cX9_cannotNudge 2 (some .int)) { frames := 1, cells := 0, slots := 0, locals := 22 } (zPre E D cy [.ref h0, .int x] [(h0, .inr (11, [.ref h1, .ref h2, .ref h3, .ref h4, .ref h5, .int v1, .int v2, .int v3, .int v4, .int v5, .ref h6, .int v6, .ref h7, .ref h8, .ref h9, .int v7, .int v8, .int v9, .int v10, .int v11])), (h1, .inl (cy 0, 64, .inl (g)))] sz) (zQi D ((q_X9_cannotNudge_2 cy h0 h1 h2 h3 h4 h5 h6 h7 h8 h9 v1 v2 v3 v4 v5 v6 v7 v8 v9 v10 v11 g) ()) (va_A [(h0, .inr (11, [.ref h1, .ref h2, .ref h3, .ref h4, .ref h5, .int v1, .int v2, .int v3, .int v4, .int v5, .ref h6, .int v6, .ref h7, .ref h8, .ref h9, .int v7, .int v8, .int v9, .int v10, .int v11])), (h1, .inl (cy 0, 64, .inl (g)))] sz) (2)) 0 0 (va_A [(h0, .inr (11, [.ref h1, .ref h2, .ref h3, .ref h4, .ref h5, .int v1, .int v2, .int v3, .int v4, .int v5, .ref h6, .int v6, .ref h7, .ref h8, .ref h9, .int v7, .int v8, .int v9, .int v10, .int v11])), (h1, .inl (cy 0, 64, .inl (g)))] sz) := by
  refine z_of (Qc := fun A => zQi D ((q_X9_cannotNudge_2 cy h0 h1 h2 h3 h4 h5 h6 h7 h8 h9 v1 v2 v3 v4 v5 v6 v7 v8 v9 v10 v11 g) ()) A (2)) (by decide +kernel) (Nat.le_of_ble_eq_true rfl) rfl ?_
  intro pG eN sT mI below meth cO A ls C hRT hnm hA hP hD hS hE0 hl
  have hX := C.x
  have hB := C.b
  refine lv_iload_n hX hB dX9_cannotNudge_0 rfl (lv_at hl 1 rfl) ?_
  refine lv_iconst (v := 1) hX hB dX9_cannotNudge_1 (by decide) ?_
  refine lv_iconst (v := 3) hX hB dX9_cannotNudge_2 (by decide) ?_
  refine z_callSi (isC := []) (isR := [0, 1]) (isO := [0, 1]) (()) (q_X9_in_t ) (fun o_1 => [(h0, .inr (11, [.ref h1, .ref h2, .ref h3, .ref h4, .ref h5, .int v1, .int v2, .int v3, .int v4, .int v5, .ref h6, .int v6, .ref h7, .ref h8, .ref h9, .int v7, .int v8, .int v9, .int v10, .int v11])), (h1, .inl (cy 0, 64, .inl (g)))]) (fun o_1 => 1) (c_X9_in_t l hE D cy  x i 1 1 3 3 hx (zlit 1) (zlit 3) (by omega) (by omega) (by omega)) hE C zs_X9_127 ⟨Nat.le_of_ble_eq_true rfl, Nat.le_of_ble_eq_true rfl⟩ hP hD hS hA hE0 ⟨rfl, rfl, rfl, by decide, rfl, rfl, rfl⟩ rfl hl.1 (Nat.le_of_ble_eq_true rfl) rfl dX9_cannotNudge_3 ⟨Nat.le_of_ble_eq_true rfl, Nat.le_of_ble_eq_true rfl⟩ (fun o_1 H locs eo_1 hP hD hS => ?_)
  refine lv_if_ne (tgt := 13) hX hB dX9_cannotNudge_6 (by decide) (fun _ => ?_) (fun c => absurd c (by decide))
  refine lv_aload_n hX hB dX9_cannotNudge_13 rfl (lv_at hl 0 rfl) ?_
  refine z_callVi (isC := [0, 1]) (isR := []) (isO := [0, 1]) (()) (q_X9_runs_f cy h0 h1 h2 h3 h4 h5 h6 h7 h8 h9 v1 v2 v3 v4 v5 v6 v7 v8 v9 v10 v11 g) (fun o_2 => [(h0, .inr (11, [.ref h1, .ref h2, .ref h3, .ref h4, .ref h5, .int v1, .int v2, .int v3, .int v4, .int v5, .ref h6, .int v6, .ref h7, .ref h8, .ref h9, .int v7, .int v8, .int v9, .int v10, .int v11])), (h1, .inl (cy 0, 64, .inl (g)))]) (fun o_2 => 0) (c_X9_runs_f l hE D cy h0 h1 h2 h3 h4 h5 h6 h7 h8 h9 v1 v2 v3 v4 v5 v6 v7 v8 v9 v10 v11 g hr) hE C zs_X9_76 ⟨Nat.le_of_ble_eq_true rfl, Nat.le_of_ble_eq_true rfl⟩ hP hD hS hA hE0 ⟨rfl, rfl, rfl, by decide, rfl, rfl, rfl⟩ 0 rfl rfl rfl rfl hl.1 (Nat.le_of_ble_eq_true rfl) rfl dX9_cannotNudge_14 ⟨Nat.le_of_ble_eq_true rfl, Nat.le_of_ble_eq_true rfl⟩ (fun o_2 H locs eo_2 hP hD hS => ?_)
  refine lv_if_eq (tgt := 24) hX hB dX9_cannotNudge_17 (by decide) (fun _ => ?_) (fun c => absurd (by decide) c)
  refine lv_iconst (v := 2) hX hB dX9_cannotNudge_24 (by decide) ?_
  exact z_iret' () (w' := q_X9_cannotNudge_2 cy h0 h1 h2 h3 h4 h5 h6 h7 h8 h9 v1 v2 v3 v4 v5 v6 v7 v8 v9 v10 v11 g) (r0 := (fun (o : Unit) => 2)) rfl C hRT hP hD hS (Nat.le_of_ble_eq_true rfl) (Nat.le_of_ble_eq_true rfl) rfl rfl dX9_cannotNudge_25

def q_X9_cannotNudge_1 (cy : Nat → ClassId) (h0 : Nat) (h1 : Nat) (h2 : Nat) (h3 : Nat) (h4 : Nat) (h5 : Nat) (h6 : Nat) (h7 : Nat) (h8 : Nat) (h9 : Nat) (v1 : Int32) (v2 : Int32) (v3 : Int32) (v4 : Int32) (v5 : Int32) (v6 : Int32) (v7 : Int32) (v8 : Int32) (v9 : Int32) (v10 : Int32) (v11 : Int32) (g : Nat → Int32) (o : Unit) : va_W := [(h0, .inr (11, [.ref h1, .ref h2, .ref h3, .ref h4, .ref h5, .int v1, .int v2, .int v3, .int v4, .int v5, .ref h6, .int v6, .ref h7, .ref h8, .ref h9, .int v7, .int v8, .int v9, .int v10, .int v11])), (h1, .inl (cy 0, 64, .inl (g)))]
set_option maxHeartbeats 4000000 in
set_option maxRecDepth 100000 in
theorem c_X9_cannotNudge_1 (l : Launch) {E : zEn} (hE : zEok E) (D : zG) (cy : Nat → ClassId) (h0 h1 h2 h3 h4 h5 h6 h7 h8 h9 : Nat) (v1 : Int32) (v2 : Int32) (v3 : Int32) (v4 : Int32) (v5 : Int32) (v6 : Int32) (v7 : Int32) (v8 : Int32) (v9 : Int32) (v10 : Int32) (v11 : Int32) (g : Nat → Int32) (x : Int32) (hin : n_X9_in x 1 3 = 0) (sz : Nat) : Met l yX9_cannotNudge (zws yX9_cannotNudge cX9_cannotNudge 2 (some .int)) { frames := 1, cells := 0, slots := 0, locals := 22 } (zPre E D cy [.ref h0, .int x] [(h0, .inr (11, [.ref h1, .ref h2, .ref h3, .ref h4, .ref h5, .int v1, .int v2, .int v3, .int v4, .int v5, .ref h6, .int v6, .ref h7, .ref h8, .ref h9, .int v7, .int v8, .int v9, .int v10, .int v11])), (h1, .inl (cy 0, 64, .inl (g)))] sz) (zQi D ((q_X9_cannotNudge_1 cy h0 h1 h2 h3 h4 h5 h6 h7 h8 h9 v1 v2 v3 v4 v5 v6 v7 v8 v9 v10 v11 g) ()) (va_A [(h0, .inr (11, [.ref h1, .ref h2, .ref h3, .ref h4, .ref h5, .int v1, .int v2, .int v3, .int v4, .int v5, .ref h6, .int v6, .ref h7, .ref h8, .ref h9, .int v7, .int v8, .int v9, .int v10, .int v11])), (h1, .inl (cy 0, 64, .inl (g)))] sz) (1)) 0 0 (va_A [(h0, .inr (11, [.ref h1, .ref h2, .ref h3, .ref h4, .ref h5, .int v1, .int v2, .int v3, .int v4, .int v5, .ref h6, .int v6, .ref h7, .ref h8, .ref h9, .int v7, .int v8, .int v9, .int v10, .int v11])), (h1, .inl (cy 0, 64, .inl (g)))] sz) := by
  refine z_of (Qc := fun A => zQi D ((q_X9_cannotNudge_1 cy h0 h1 h2 h3 h4 h5 h6 h7 h8 h9 v1 v2 v3 v4 v5 v6 v7 v8 v9 v10 v11 g) ()) A (1)) (by decide +kernel) (Nat.le_of_ble_eq_true rfl) rfl ?_
  intro pG eN sT mI below meth cO A ls C hRT hnm hA hP hD hS hE0 hl
  have hX := C.x
  have hB := C.b
  refine lv_iload_n hX hB dX9_cannotNudge_0 rfl (lv_at hl 1 rfl) ?_
  refine lv_iconst (v := 1) hX hB dX9_cannotNudge_1 (by decide) ?_
  refine lv_iconst (v := 3) hX hB dX9_cannotNudge_2 (by decide) ?_
  refine z_callSi (isC := []) (isR := [0, 1]) (isO := [0, 1]) (n_X9_in x 1 3) (q_X9_in ) (fun o_1 => [(h0, .inr (11, [.ref h1, .ref h2, .ref h3, .ref h4, .ref h5, .int v1, .int v2, .int v3, .int v4, .int v5, .ref h6, .int v6, .ref h7, .ref h8, .ref h9, .int v7, .int v8, .int v9, .int v10, .int v11])), (h1, .inl (cy 0, 64, .inl (g)))]) (fun o_1 => o_1) (c_X9_in l hE D cy  x 1 3 ) hE C zs_X9_127 ⟨Nat.le_of_ble_eq_true rfl, Nat.le_of_ble_eq_true rfl⟩ hP hD hS hA hE0 ⟨rfl, rfl, rfl, by decide, rfl, rfl, rfl⟩ rfl hl.1 (Nat.le_of_ble_eq_true rfl) rfl dX9_cannotNudge_3 ⟨Nat.le_of_ble_eq_true rfl, Nat.le_of_ble_eq_true rfl⟩ (fun o_1 H locs eo_1 hP hD hS => ?_)
  refine lv_if_ne (tgt := 13) hX hB dX9_cannotNudge_6 (by decide) (fun c => absurd (by rw [eo_1]; exact hin) c) (fun _ => ?_)
  refine lv_iconst (v := 1) hX hB dX9_cannotNudge_9 (by decide) ?_
  refine lv_goto (tgt := 25) hX hB dX9_cannotNudge_10 (by decide) ?_
  exact z_iret' () (w' := q_X9_cannotNudge_1 cy h0 h1 h2 h3 h4 h5 h6 h7 h8 h9 v1 v2 v3 v4 v5 v6 v7 v8 v9 v10 v11 g) (r0 := (fun (o : Unit) => 1)) rfl C hRT hP hD hS (Nat.le_of_ble_eq_true rfl) (Nat.le_of_ble_eq_true rfl) rfl rfl dX9_cannotNudge_25

end M2
