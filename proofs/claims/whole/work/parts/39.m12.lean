section M12
def q_X9_write (cy : Nat → ClassId) (h0 : Nat) (h1 : Nat) (h2 : Nat) (h3 : Nat) (h4 : Nat) (h5 : Nat) (h6 : Nat) (h7 : Nat) (h8 : Nat) (h9 : Nat) (v1 : Int32) (v2 : Int32) (v3 : Int32) (v4 : Int32) (v5 : Int32) (v7 : Int32) (v8 : Int32) (v9 : Int32) (v10 : Int32) (v11 : Int32) (go : Nat → Int32) (x : Int32) (n : Nat) (o : Unit) : va_W := [(h0, .inr (11, [.ref h1, .ref h2, .ref h3, .ref h4, .ref h5, .int v1, .int v2, .int v3, .int v4, .int v5, .ref h6, .int (nI (n + 1)), .ref h7, .ref h8, .ref h9, .int v7, .int v8, .int v9, .int v10, .int v11])), (h6, .inl (cy 0, 120, .inl (upd go n x)))]
set_option maxHeartbeats 4000000 in
set_option maxRecDepth 100000 in
theorem c_X9_write (l : Launch) {E : zEn} (hE : zEok E) (D : zG) (cy : Nat → ClassId) (h0 h1 h2 h3 h4 h5 h6 h7 h8 h9 : Nat) (v1 : Int32) (v2 : Int32) (v3 : Int32) (v4 : Int32) (v5 : Int32) (v6 : Int32) (v7 : Int32) (v8 : Int32) (v9 : Int32) (v10 : Int32) (v11 : Int32) (go : Nat → Int32) (x : Int32) (n : Nat) (ho : zi v6 n) (hob : n ≤ 119) (sz : Nat) : Met l yX9_write (zws yX9_write cX9_write 2 none) { frames := 0, cells := 0, slots := 0, locals := 0 } (zPre E D cy [.ref h0, .int x] [(h0, .inr (11, [.ref h1, .ref h2, .ref h3, .ref h4, .ref h5, .int v1, .int v2, .int v3, .int v4, .int v5, .ref h6, .int v6, .ref h7, .ref h8, .ref h9, .int v7, .int v8, .int v9, .int v10, .int v11])), (h6, .inl (cy 0, 120, .inl (go)))] sz) (zQv D ((q_X9_write cy h0 h1 h2 h3 h4 h5 h6 h7 h8 h9 v1 v2 v3 v4 v5 v7 v8 v9 v10 v11 go x n) ()) (va_A [(h0, .inr (11, [.ref h1, .ref h2, .ref h3, .ref h4, .ref h5, .int v1, .int v2, .int v3, .int v4, .int v5, .ref h6, .int v6, .ref h7, .ref h8, .ref h9, .int v7, .int v8, .int v9, .int v10, .int v11])), (h6, .inl (cy 0, 120, .inl (go)))] sz)) 0 0 (va_A [(h0, .inr (11, [.ref h1, .ref h2, .ref h3, .ref h4, .ref h5, .int v1, .int v2, .int v3, .int v4, .int v5, .ref h6, .int v6, .ref h7, .ref h8, .ref h9, .int v7, .int v8, .int v9, .int v10, .int v11])), (h6, .inl (cy 0, 120, .inl (go)))] sz) := by
  refine z_of (Qc := fun A => zQv D ((q_X9_write cy h0 h1 h2 h3 h4 h5 h6 h7 h8 h9 v1 v2 v3 v4 v5 v7 v8 v9 v10 v11 go x n) ()) A) (by decide +kernel) (Nat.le_of_ble_eq_true rfl) rfl ?_
  intro pG eN sT mI below meth cO A ls C hRT hnm hA hP hD hS hE0 hl
  have hX := C.x
  have hB := C.b
  refine lv_aload_n hX hB dX9_write_0 rfl (lv_at hl 0 rfl) ?_
  refine fg_X9_42 C hP 0 rfl rfl dX9_write_1 ?_
  refine lv_aload_n hX hB dX9_write_4 rfl (lv_at hl 0 rfl) ?_
  refine fg_X9_45 C hP 0 rfl rfl dX9_write_5 ?_
  refine lv_iload_n hX hB dX9_write_8 rfl (lv_at hl 1 rfl) ?_
  refine z_iast C hP hD hS 1 rfl (k := n) ho (by omega) (by decide) (w' := [(h0, .inr (11, [.ref h1, .ref h2, .ref h3, .ref h4, .ref h5, .int v1, .int v2, .int v3, .int v4, .int v5, .ref h6, .int v6, .ref h7, .ref h8, .ref h9, .int v7, .int v8, .int v9, .int v10, .int v11])), (h6, .inl (cy 0, 120, .inl (upd go n x)))]) rfl dX9_write_9 (fun H locs hP hD hS => ?_)
  refine lv_aload_n hX hB dX9_write_10 rfl (lv_at hl 0 rfl) ?_
  refine lv_dup hX hB dX9_write_11 rfl ?_
  refine fg_X9_45 C hP 0 rfl rfl dX9_write_12 ?_
  refine lv_iconst (v := 1) hX hB dX9_write_15 (by decide) ?_
  refine z_iadd (v := nI (n + 1)) C dX9_write_16 (zi_add ho (zlit 1)) ?_
  refine fp_X9_45 C hP hD hS 0 rfl rfl rfl (Nat.le_of_ble_eq_true rfl) (w' := [(h0, .inr (11, [.ref h1, .ref h2, .ref h3, .ref h4, .ref h5, .int v1, .int v2, .int v3, .int v4, .int v5, .ref h6, .int (nI (n + 1)), .ref h7, .ref h8, .ref h9, .int v7, .int v8, .int v9, .int v10, .int v11])), (h6, .inl (cy 0, 120, .inl (upd go n x)))]) rfl dX9_write_17 (fun H locs hP hD hS => ?_)
  exact z_vret' () (w' := q_X9_write cy h0 h1 h2 h3 h4 h5 h6 h7 h8 h9 v1 v2 v3 v4 v5 v7 v8 v9 v10 v11 go x n) rfl C hRT hP hD hS (Nat.le_of_ble_eq_true rfl) (Nat.le_of_ble_eq_true rfl) rfl dX9_write_20

def n_X9_writeNumber_L2 (w : Nat) : Nat → (Nat → Int32) → Nat → Nat → Int32 × (Nat → Int32)
  | 0, f2, m, _ => (nI m, f2)
  | n_4 + 1, f2, m, q2 =>
    if nI q2 ≤ 0 then
      (nI m, f2)
    else
      n_X9_writeNumber_L2 w n_4 (upd f2 m (nI (48 + ((w / q2) % 10)))) (m + 1) (q2 / 10)
def n_X9_writeNumber_L1 (v6 : Int32) (go : Nat → Int32) (w : Nat) (n : Nat) : Nat → Nat → Int32 × (Nat → Int32)
  | 0, _ => (v6, go)
  | n_1 + 1, q =>
    if nI (w / q) ≤ 9 then
      n_X9_writeNumber_L2 w (w + 2) go n q
    else
      n_X9_writeNumber_L1 v6 go w n n_1 (q * 10)
def n_X9_writeNumber (v6 : Int32) (go : Nat → Int32) (w : Nat) (n : Nat) : Int32 × (Nat → Int32) :=
  n_X9_writeNumber_L1 v6 go w n (w + 2) 1
def q_X9_writeNumber (cy : Nat → ClassId) (h0 : Nat) (h1 : Nat) (h2 : Nat) (h3 : Nat) (h4 : Nat) (h5 : Nat) (h6 : Nat) (h7 : Nat) (h8 : Nat) (h9 : Nat) (v1 : Int32) (v2 : Int32) (v3 : Int32) (v4 : Int32) (v5 : Int32) (v7 : Int32) (v8 : Int32) (v9 : Int32) (v10 : Int32) (v11 : Int32) (o : Int32 × (Nat → Int32)) : va_W := [(h0, .inr (11, [.ref h1, .ref h2, .ref h3, .ref h4, .ref h5, .int v1, .int v2, .int v3, .int v4, .int v5, .ref h6, .int o.1, .ref h7, .ref h8, .ref h9, .int v7, .int v8, .int v9, .int v10, .int v11])), (h6, .inl (cy 0, 120, .inl (o.2)))]
set_option maxHeartbeats 4000000 in
set_option maxRecDepth 100000 in
theorem c_X9_writeNumber (l : Launch) {E : zEn} (hE : zEok E) (D : zG) (cy : Nat → ClassId) (h0 h1 h2 h3 h4 h5 h6 h7 h8 h9 : Nat) (v1 : Int32) (v2 : Int32) (v3 : Int32) (v4 : Int32) (v5 : Int32) (v6 : Int32) (v7 : Int32) (v8 : Int32) (v9 : Int32) (v10 : Int32) (v11 : Int32) (go : Nat → Int32) (x : Int32) (w : Nat) (n : Nat) (hx : zi x w) (hw : w < 2 ^ 31) (ho : zi v6 n) (hob : n ≤ 110) (sz : Nat) : Met l yX9_writeNumber (zws yX9_writeNumber cX9_writeNumber 3 none) { frames := 1, cells := 0, slots := 0, locals := 21 } (zPre E D cy [.ref h0, .int x] [(h0, .inr (11, [.ref h1, .ref h2, .ref h3, .ref h4, .ref h5, .int v1, .int v2, .int v3, .int v4, .int v5, .ref h6, .int v6, .ref h7, .ref h8, .ref h9, .int v7, .int v8, .int v9, .int v10, .int v11])), (h6, .inl (cy 0, 120, .inl (go)))] sz) (zQv D ((q_X9_writeNumber cy h0 h1 h2 h3 h4 h5 h6 h7 h8 h9 v1 v2 v3 v4 v5 v7 v8 v9 v10 v11) (n_X9_writeNumber v6 go w n)) (va_A [(h0, .inr (11, [.ref h1, .ref h2, .ref h3, .ref h4, .ref h5, .int v1, .int v2, .int v3, .int v4, .int v5, .ref h6, .int v6, .ref h7, .ref h8, .ref h9, .int v7, .int v8, .int v9, .int v10, .int v11])), (h6, .inl (cy 0, 120, .inl (go)))] sz)) 0 0 (va_A [(h0, .inr (11, [.ref h1, .ref h2, .ref h3, .ref h4, .ref h5, .int v1, .int v2, .int v3, .int v4, .int v5, .ref h6, .int v6, .ref h7, .ref h8, .ref h9, .int v7, .int v8, .int v9, .int v10, .int v11])), (h6, .inl (cy 0, 120, .inl (go)))] sz) := by
  refine z_of (Qc := fun A => zQv D ((q_X9_writeNumber cy h0 h1 h2 h3 h4 h5 h6 h7 h8 h9 v1 v2 v3 v4 v5 v7 v8 v9 v10 v11) (n_X9_writeNumber v6 go w n)) A) (by decide +kernel) (Nat.le_of_ble_eq_true rfl) rfl ?_
  intro pG eN sT mI below meth cO A ls C hRT hnm hA hP hD hS hE0 hl
  have hX := C.x
  have hB := C.b
  refine lv_iconst (v := 1) hX hB dX9_writeNumber_0 (by decide) ?_
  refine lv_istore_n (lv' := [(2, .int 1), (0, .ref h0), (1, .int x)]) hX hB dX9_writeNumber_1 rfl hl (by decide) rfl (fun ls hl => ?_)
  have loop_0 : ∀ (n_1 : Nat) (q : Nat), (1 ≤ q ∧ (q ≤ w ∨ q = 1)) → w + 1 - q < n_1 → n_X9_writeNumber_L1 v6 go w n n_1 q = n_X9_writeNumber v6 go w n → ∀ (H : Heap) (locs : List Loc), va_P D vwCl [(h0, .inr (11, [.ref h1, .ref h2, .ref h3, .ref h4, .ref h5, .int v1, .int v2, .int v3, .int v4, .int v5, .ref h6, .int v6, .ref h7, .ref h8, .ref h9, .int v7, .int v8, .int v9, .int v10, .int v11])), (h6, .inl (cy 0, 120, .inl (go)))] H → va_D A [(h0, .inr (11, [.ref h1, .ref h2, .ref h3, .ref h4, .ref h5, .int v1, .int v2, .int v3, .int v4, .int v5, .ref h6, .int v6, .ref h7, .ref h8, .ref h9, .int v7, .int v8, .int v9, .int v10, .int v11])), (h6, .inl (cy 0, 120, .inl (go)))] → va_S A sT.heap H locs → ∀ (ls : Array Slot), lv_has ls 3 [(2, .int (nI q)), (0, .ref h0), (1, .int x)] → W pG l eN { frames := 1, cells := 0, slots := 0, locals := 21 } sT mI ([.ref h0, .int x] : List Value).toArray below meth cO H locs 0 0 (MQ below (zQv D ((q_X9_writeNumber cy h0 h1 h2 h3 h4 h5 h6 h7 h8 h9 v1 v2 v3 v4 v5 v7 v8 v9 v10 v11) (n_X9_writeNumber v6 go w n)) A) ([.ref h0, .int x] : List Value).toArray sT 0 0 A) (F0 mI 2 ls []) := by
    intro n_1
    induction n_1 with
    | zero =>
      intro q hb_0_0 hm_0
      exact absurd hm_0 (by omega)
    | succ n_1 ih_2 =>
      intro q hb_0_0 hm_0 hF_0 H locs hP hD hS ls hl
      refine lv_iload_n hX hB dX9_writeNumber_2 rfl (lv_at hl 2 rfl) ?_
      refine lv_iload_n hX hB dX9_writeNumber_3 rfl (lv_at hl 0 rfl) ?_
      have hdq : w / q ≤ w := Nat.div_le_self _ _
      refine z_idiv (v := nI (w / q)) C dX9_writeNumber_4 (zi_ne (zi_i q) (zlit 0) (by omega) (by omega) (by decide)) (zi_div hx (zi_i q) (by omega) (by omega) (by omega)) ?_
      refine lv_bipush (v := 9) hX hB dX9_writeNumber_5 (by decide) ?_
      refine lv_icmp_le (tgt := 18) hX hB dX9_writeNumber_7 (by decide) (fun c_3 => ?_) (fun c_3 => ?_)
      · have c_3n : w / q ≤ 9 := (zi_le_iff (zi_i (w / q)) (zlit 9) (by omega) (by decide)).mp c_3
        have loop_1 : ∀ (n_4 : Nat) (f2 : Nat → Int32) (m : Nat) (q2 : Nat), (m ≤ 120) → (q2 ≤ w ∨ q2 = 1) → (0 < q2 → m + sb_dg q2 ≤ 120) → q2 < n_4 → n_X9_writeNumber_L2 w n_4 f2 m q2 = n_X9_writeNumber v6 go w n → ∀ (H : Heap) (locs : List Loc), va_P D vwCl [(h0, .inr (11, [.ref h1, .ref h2, .ref h3, .ref h4, .ref h5, .int v1, .int v2, .int v3, .int v4, .int v5, .ref h6, .int (nI m), .ref h7, .ref h8, .ref h9, .int v7, .int v8, .int v9, .int v10, .int v11])), (h6, .inl (cy 0, 120, .inl (f2)))] H → va_D A [(h0, .inr (11, [.ref h1, .ref h2, .ref h3, .ref h4, .ref h5, .int v1, .int v2, .int v3, .int v4, .int v5, .ref h6, .int (nI m), .ref h7, .ref h8, .ref h9, .int v7, .int v8, .int v9, .int v10, .int v11])), (h6, .inl (cy 0, 120, .inl (f2)))] → va_S A sT.heap H locs → ∀ (ls : Array Slot), lv_has ls 3 [(2, .int (nI q2)), (0, .ref h0), (1, .int x)] → W pG l eN { frames := 1, cells := 0, slots := 0, locals := 21 } sT mI ([.ref h0, .int x] : List Value).toArray below meth cO H locs 0 0 (MQ below (zQv D ((q_X9_writeNumber cy h0 h1 h2 h3 h4 h5 h6 h7 h8 h9 v1 v2 v3 v4 v5 v7 v8 v9 v10 v11) (n_X9_writeNumber v6 go w n)) A) ([.ref h0, .int x] : List Value).toArray sT 0 0 A) (F0 mI 18 ls []) := by
          intro n_4
          induction n_4 with
          | zero =>
            intro f2 m q2 hb_1_0 hb_1_1 hinv_1_0 hm_1
            exact absurd hm_1 (by omega)
          | succ n_4 ih_5 =>
            intro f2 m q2 hb_1_0 hb_1_1 hinv_1_0 hm_1 hF_1 H locs hP hD hS ls hl
            refine lv_iload_n hX hB dX9_writeNumber_18 rfl (lv_at hl 0 rfl) ?_
            refine lv_if_le (tgt := 43) hX hB dX9_writeNumber_19 (by decide) (fun c_6 => ?_) (fun c_6 => ?_)
            · have c_6n : q2 ≤ 0 := (zi_le_iff (zi_i q2) (zlit 0) (by omega) (by decide)).mp c_6
              exact z_vret' (nI m, f2) (w' := q_X9_writeNumber cy h0 h1 h2 h3 h4 h5 h6 h7 h8 h9 v1 v2 v3 v4 v5 v7 v8 v9 v10 v11) (hF_1.symm.trans (by simp only [n_X9_writeNumber_L2, if_pos c_6])) C hRT hP hD hS (Nat.le_of_ble_eq_true rfl) (Nat.le_of_ble_eq_true rfl) rfl dX9_writeNumber_43
            · have c_6n : ¬ (q2 ≤ 0) := fun z => c_6 ((zi_le_iff (zi_i q2) (zlit 0) (by omega) (by decide)).mpr z)
              have hdq2 : w / q2 ≤ w := Nat.div_le_self _ _
              have hq3 := hinv_1_0 (by omega)
              have hq4 := (sb_dg_in q2).1
              refine lv_aload_n hX hB dX9_writeNumber_22 rfl (lv_at hl 1 rfl) ?_
              refine lv_bipush (v := 48) hX hB dX9_writeNumber_23 (by decide) ?_
              refine lv_iload_n hX hB dX9_writeNumber_25 rfl (lv_at hl 2 rfl) ?_
              refine lv_iload_n hX hB dX9_writeNumber_26 rfl (lv_at hl 0 rfl) ?_
              refine z_idiv (v := nI (w / q2)) C dX9_writeNumber_27 (zi_ne (zi_i q2) (zlit 0) (by omega) (by omega) (by decide)) (zi_div hx (zi_i q2) (by omega) (by omega) (by omega)) ?_
              refine lv_bipush (v := 10) hX hB dX9_writeNumber_28 (by decide) ?_
              refine z_irem (v := nI ((w / q2) % 10)) C dX9_writeNumber_30 (by decide) (zi_rem (zi_i (w / q2)) (zlit 10) (by omega) (by omega) (by decide)) ?_
              refine z_iadd (v := nI (48 + ((w / q2) % 10))) C dX9_writeNumber_31 (zi_add (zlit 48) (zi_i ((w / q2) % 10))) ?_
              refine z_callVv (isC := [0, 1]) (isR := []) (isO := [0, 1]) (()) (q_X9_write cy h0 h1 h2 h3 h4 h5 h6 h7 h8 h9 v1 v2 v3 v4 v5 v7 v8 v9 v10 v11 f2 (nI (48 + ((w / q2) % 10))) m) (fun o_7 => [(h0, .inr (11, [.ref h1, .ref h2, .ref h3, .ref h4, .ref h5, .int v1, .int v2, .int v3, .int v4, .int v5, .ref h6, .int (nI (m + 1)), .ref h7, .ref h8, .ref h9, .int v7, .int v8, .int v9, .int v10, .int v11])), (h6, .inl (cy 0, 120, .inl (upd f2 m (nI (48 + ((w / q2) % 10))))))]) (c_X9_write l hE D cy h0 h1 h2 h3 h4 h5 h6 h7 h8 h9 v1 v2 v3 v4 v5 (nI m) v7 v8 v9 v10 v11 f2 (nI (48 + ((w / q2) % 10))) m (zi_i m) (by omega)) hE C zs_X9_190 ⟨Nat.le_of_ble_eq_true rfl, Nat.le_of_ble_eq_true rfl⟩ hP hD hS hA hE0 ⟨rfl, rfl, rfl, by decide, rfl, rfl, rfl⟩ 0 rfl rfl rfl rfl hl.1 (Nat.le_of_ble_eq_true rfl) rfl dX9_writeNumber_32 ⟨Nat.le_of_ble_eq_true rfl, Nat.le_of_ble_eq_true rfl⟩ (fun o_7 H locs eo_7 hP hD hS => ?_)
              refine lv_iload_n hX hB dX9_writeNumber_35 rfl (lv_at hl 0 rfl) ?_
              refine lv_bipush (v := 10) hX hB dX9_writeNumber_36 (by decide) ?_
              refine z_idiv (v := nI (q2 / 10)) C dX9_writeNumber_38 (by decide) (zi_div (zi_i q2) (zlit 10) (by omega) (by omega) (by decide)) ?_
              refine lv_istore_n (lv' := [(2, .int (nI (q2 / 10))), (0, .ref h0), (1, .int x)]) hX hB dX9_writeNumber_39 rfl hl (by decide) rfl (fun ls hl => ?_)
              refine lv_goto (tgt := 18) hX hB dX9_writeNumber_40 (by decide) ?_
              exact ih_5 (upd f2 m (nI (48 + ((w / q2) % 10)))) (m + 1) (q2 / 10) (by omega) (by omega) (by intro z; have q1 := dgst (q := q2) (by omega) (by omega); have q2_ := hinv_1_0 (by omega); omega) (by omega) (Eq.trans (by simp only [n_X9_writeNumber_L2, if_neg c_6]) hF_1) _ _ hP hD hS ls (lv_sub hl [0, 1, 2] rfl)
        rw [show v6 = nI n from ho] at hP hD
        exact loop_1 (w + 2) go n q (by omega) (by omega) (by intro z; have := sb_dg_in q; omega) (by omega) (Eq.trans (by simp only [n_X9_writeNumber_L1, if_pos c_3]) hF_0) _ _ hP hD hS ls hl
      · have c_3n : ¬ (w / q ≤ 9) := fun z => c_3 ((zi_le_iff (zi_i (w / q)) (zlit 9) (by omega) (by decide)).mpr z)
        have h10 : q * 10 ≤ w := dv10 (by omega) (by omega)
        refine lv_iload_n hX hB dX9_writeNumber_10 rfl (lv_at hl 0 rfl) ?_
        refine lv_bipush (v := 10) hX hB dX9_writeNumber_11 (by decide) ?_
        refine z_imul (v := nI (q * 10)) C dX9_writeNumber_13 (zi_mul (zi_i q) (zlit 10)) ?_
        refine lv_istore_n (lv' := [(2, .int (nI (q * 10))), (0, .ref h0), (1, .int x)]) hX hB dX9_writeNumber_14 rfl hl (by decide) rfl (fun ls hl => ?_)
        refine lv_goto (tgt := 2) hX hB dX9_writeNumber_15 (by decide) ?_
        exact ih_2 (q * 10) (by omega)  (by omega) (Eq.trans (by simp only [n_X9_writeNumber_L1, if_neg c_3]) hF_0) _ _ hP hD hS ls (lv_sub hl [0, 1, 2] rfl)
  exact loop_0 (w + 2) 1 (by omega)  (by omega) (by simp only [n_X9_writeNumber]) _ _ hP hD hS ls hl

end M12
