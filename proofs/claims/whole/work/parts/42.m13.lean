section M13
def n_X9_renderBall_ok_L3 (g : Nat → Int32) : Nat → (Nat → Int32) → Nat → Nat → Int32 × Int32 × Int32 × (Nat → Int32)
  | 0, f3, q3, _ => (0, 0, nI q3, f3)
  | n_12 + 1, f3, q3, k3 =>
    if g 9 ≤ nI k3 then
      let o_15 := n_X9_isTilt g
      if o_15 = 0 then
        (nI q3, 0, nI q3, f3)
      else
        (nI (q3 + 1), 0, nI (q3 + 1), upd f3 q3 84)
    else
      n_X9_renderBall_ok_L3 g n_12 (upd f3 q3 33) (q3 + 1) (k3 + 1)
def n_X9_renderBall_ok_L2 (g : Nat → Int32) : Nat → (Nat → Int32) → Nat → Nat → Int32 × Int32 × Int32 × (Nat → Int32)
  | 0, f2, q2, _ => (0, 0, nI q2, f2)
  | n_9 + 1, f2, q2, k2 =>
    if 5 ≤ nI k2 then
      n_X9_renderBall_ok_L3 g 4 f2 q2 0
    else
      if g (24 + k2) = 1 then
        n_X9_renderBall_ok_L2 g n_9 (upd f2 q2 95) (q2 + 1) (k2 + 1)
      else
        n_X9_renderBall_ok_L2 g n_9 (upd f2 q2 124) (q2 + 1) (k2 + 1)
def n_X9_renderBall_ok_L1 (g : Nat → Int32) : Nat → (Nat → Int32) → Nat → Nat → Int32 × Int32 × Int32 × (Nat → Int32)
  | 0, f1, q, _ => (0, 0, nI q, f1)
  | n_5 + 1, f1, q, k =>
    if 4 ≤ nI k then
      n_X9_renderBall_ok_L2 g 6 (upd f1 q 32) (q + 1) 0
    else
      if g (16 + k) = 1 then
        n_X9_renderBall_ok_L1 g n_5 (upd f1 q 42) (q + 1) (k + 1)
      else
        n_X9_renderBall_ok_L1 g n_5 (upd f1 q 46) (q + 1) (k + 1)
def n_X9_renderBall_ok (g : Nat → Int32) (go : Nat → Int32) : Int32 × Int32 × Int32 × (Nat → Int32) :=
  let o_3 := n_X9_writeNumber (nI 1) (upd go 0 120) (zn (g 5)) 1
  n_X9_renderBall_ok_L1 g 5 (upd o_3.2 (1 + sb_dg (zn (g 5))) 32) ((1 + sb_dg (zn (g 5))) + 1) 0
def q_X9_renderBall_ok (cy : Nat → ClassId) (h0 : Nat) (h1 : Nat) (h2 : Nat) (h3 : Nat) (h4 : Nat) (h5 : Nat) (h6 : Nat) (h7 : Nat) (h8 : Nat) (h9 : Nat) (v2 : Int32) (v3 : Int32) (v4 : Int32) (v5 : Int32) (v7 : Int32) (v8 : Int32) (v9 : Int32) (v10 : Int32) (v11 : Int32) (g : Nat → Int32) (o : Int32 × Int32 × Int32 × (Nat → Int32)) : va_W := [(h0, .inr (11, [.ref h1, .ref h2, .ref h3, .ref h4, .ref h5, .int o.2.1, .int v2, .int v3, .int v4, .int v5, .ref h6, .int o.2.2.1, .ref h7, .ref h8, .ref h9, .int v7, .int v8, .int v9, .int v10, .int v11])), (h1, .inl (cy 0, 64, .inl (g))), (h6, .inl (cy 0, 120, .inl (o.2.2.2)))]
set_option maxHeartbeats 4000000 in
set_option maxRecDepth 100000 in
theorem c_X9_renderBall_ok (l : Launch) {E : zEn} (hE : zEok E) (D : zG) (cy : Nat → ClassId) (h0 h1 h2 h3 h4 h5 h6 h7 h8 h9 : Nat) (v1 : Int32) (v2 : Int32) (v3 : Int32) (v4 : Int32) (v5 : Int32) (v6 : Int32) (v7 : Int32) (v8 : Int32) (v9 : Int32) (v10 : Int32) (v11 : Int32) (g : Nat → Int32) (go : Nat → Int32) (hr : g 0 = 1) (hg5 : zle (g 5) 6) (hg9 : zle (g 9) 3) (sz : Nat) : Met l yX9_renderBall (zws yX9_renderBall cX9_renderBall 2 (some .int)) { frames := 2, cells := 0, slots := 0, locals := 43 } (zPre E D cy [.ref h0] [(h0, .inr (11, [.ref h1, .ref h2, .ref h3, .ref h4, .ref h5, .int v1, .int v2, .int v3, .int v4, .int v5, .ref h6, .int v6, .ref h7, .ref h8, .ref h9, .int v7, .int v8, .int v9, .int v10, .int v11])), (h1, .inl (cy 0, 64, .inl (g))), (h6, .inl (cy 0, 120, .inl (go)))] sz) (zQi D ((q_X9_renderBall_ok cy h0 h1 h2 h3 h4 h5 h6 h7 h8 h9 v2 v3 v4 v5 v7 v8 v9 v10 v11 g) (n_X9_renderBall_ok g go)) (va_A [(h0, .inr (11, [.ref h1, .ref h2, .ref h3, .ref h4, .ref h5, .int v1, .int v2, .int v3, .int v4, .int v5, .ref h6, .int v6, .ref h7, .ref h8, .ref h9, .int v7, .int v8, .int v9, .int v10, .int v11])), (h1, .inl (cy 0, 64, .inl (g))), (h6, .inl (cy 0, 120, .inl (go)))] sz) ((n_X9_renderBall_ok g go).1)) 0 0 (va_A [(h0, .inr (11, [.ref h1, .ref h2, .ref h3, .ref h4, .ref h5, .int v1, .int v2, .int v3, .int v4, .int v5, .ref h6, .int v6, .ref h7, .ref h8, .ref h9, .int v7, .int v8, .int v9, .int v10, .int v11])), (h1, .inl (cy 0, 64, .inl (g))), (h6, .inl (cy 0, 120, .inl (go)))] sz) := by
  refine z_of (Qc := fun A => zQi D ((q_X9_renderBall_ok cy h0 h1 h2 h3 h4 h5 h6 h7 h8 h9 v2 v3 v4 v5 v7 v8 v9 v10 v11 g) (n_X9_renderBall_ok g go)) A ((n_X9_renderBall_ok g go).1)) (by decide +kernel) (Nat.le_of_ble_eq_true rfl) rfl ?_
  intro pG eN sT mI below meth cO A ls C hRT hnm hA hP hD hS hE0 hl
  have hX := C.x
  have hB := C.b
  have hg5_ := hg5.2
  have hg9_ := hg9.2
  refine lv_aload_n hX hB dX9_renderBall_0 rfl (lv_at hl 0 rfl) ?_
  refine lv_aload_n hX hB dX9_renderBall_1 rfl (lv_at hl 0 rfl) ?_
  refine z_callVi (isC := [0, 1]) (isR := [2]) (isO := [1, 2, 0]) (()) (q_X9_runs_t cy h0 h1 h2 h3 h4 h5 h6 h7 h8 h9 v1 v2 v3 v4 v5 v6 v7 v8 v9 v10 v11 g) (fun o_1 => [(h0, .inr (11, [.ref h1, .ref h2, .ref h3, .ref h4, .ref h5, .int v1, .int v2, .int v3, .int v4, .int v5, .ref h6, .int v6, .ref h7, .ref h8, .ref h9, .int v7, .int v8, .int v9, .int v10, .int v11])), (h1, .inl (cy 0, 64, .inl (g))), (h6, .inl (cy 0, 120, .inl (go)))]) (fun o_1 => 1) (c_X9_runs_t l hE D cy h0 h1 h2 h3 h4 h5 h6 h7 h8 h9 v1 v2 v3 v4 v5 v6 v7 v8 v9 v10 v11 g hr) hE C zs_X9_76 ⟨Nat.le_of_ble_eq_true rfl, Nat.le_of_ble_eq_true rfl⟩ hP hD hS hA hE0 ⟨rfl, rfl, rfl, by decide, rfl, rfl, rfl⟩ 0 rfl rfl rfl rfl hl.1 (Nat.le_of_ble_eq_true rfl) rfl dX9_renderBall_2 ⟨Nat.le_of_ble_eq_true rfl, Nat.le_of_ble_eq_true rfl⟩ (fun o_1 H locs eo_1 hP hD hS => ?_)
  refine lv_if_eq (tgt := 12) hX hB dX9_renderBall_5 (by decide) (fun c => absurd c (by decide)) (fun _ => ?_)
  refine lv_iconst (v := 0) hX hB dX9_renderBall_8 (by decide) ?_
  refine lv_goto (tgt := 13) hX hB dX9_renderBall_9 (by decide) ?_
  refine fp_X9_25 C hP hD hS 0 rfl rfl rfl (Nat.le_of_ble_eq_true rfl) (w' := [(h0, .inr (11, [.ref h1, .ref h2, .ref h3, .ref h4, .ref h5, .int 0, .int v2, .int v3, .int v4, .int v5, .ref h6, .int v6, .ref h7, .ref h8, .ref h9, .int v7, .int v8, .int v9, .int v10, .int v11])), (h1, .inl (cy 0, 64, .inl (g))), (h6, .inl (cy 0, 120, .inl (go)))]) rfl dX9_renderBall_13 (fun H locs hP hD hS => ?_)
  refine lv_aload_n hX hB dX9_renderBall_16 rfl (lv_at hl 0 rfl) ?_
  refine fg_X9_25 C hP 0 rfl rfl dX9_renderBall_17 ?_
  refine lv_if_le (tgt := 25) hX hB dX9_renderBall_20 (by decide) (fun _ => ?_) (fun c => absurd (by decide) c)
  refine lv_aload_n hX hB dX9_renderBall_25 rfl (lv_at hl 0 rfl) ?_
  refine lv_iconst (v := 0) hX hB dX9_renderBall_26 (by decide) ?_
  refine fp_X9_45 C hP hD hS 0 rfl rfl rfl (Nat.le_of_ble_eq_true rfl) (w' := [(h0, .inr (11, [.ref h1, .ref h2, .ref h3, .ref h4, .ref h5, .int 0, .int v2, .int v3, .int v4, .int v5, .ref h6, .int 0, .ref h7, .ref h8, .ref h9, .int v7, .int v8, .int v9, .int v10, .int v11])), (h1, .inl (cy 0, 64, .inl (g))), (h6, .inl (cy 0, 120, .inl (go)))]) rfl dX9_renderBall_27 (fun H locs hP hD hS => ?_)
  refine lv_aload_n hX hB dX9_renderBall_30 rfl (lv_at hl 0 rfl) ?_
  refine lv_bipush (v := 120) hX hB dX9_renderBall_31 (by decide) ?_
  refine z_callVv (isC := [0, 2]) (isR := [1]) (isO := [1, 0, 2]) (()) (q_X9_write cy h0 h1 h2 h3 h4 h5 h6 h7 h8 h9 0 v2 v3 v4 v5 v7 v8 v9 v10 v11 go 120 0) (fun o_2 => [(h0, .inr (11, [.ref h1, .ref h2, .ref h3, .ref h4, .ref h5, .int 0, .int v2, .int v3, .int v4, .int v5, .ref h6, .int (nI 1), .ref h7, .ref h8, .ref h9, .int v7, .int v8, .int v9, .int v10, .int v11])), (h1, .inl (cy 0, 64, .inl (g))), (h6, .inl (cy 0, 120, .inl (upd go 0 120)))]) (c_X9_write l hE D cy h0 h1 h2 h3 h4 h5 h6 h7 h8 h9 0 v2 v3 v4 v5 0 v7 v8 v9 v10 v11 go 120 0 (zlit 0) (by omega)) hE C zs_X9_190 ⟨Nat.le_of_ble_eq_true rfl, Nat.le_of_ble_eq_true rfl⟩ hP hD hS hA hE0 ⟨rfl, rfl, rfl, by decide, rfl, rfl, rfl⟩ 0 rfl rfl rfl rfl hl.1 (Nat.le_of_ble_eq_true rfl) rfl dX9_renderBall_33 ⟨Nat.le_of_ble_eq_true rfl, Nat.le_of_ble_eq_true rfl⟩ (fun o_2 H locs eo_2 hP hD hS => ?_)
  refine lv_aload_n hX hB dX9_renderBall_36 rfl (lv_at hl 0 rfl) ?_
  refine lv_aload_n hX hB dX9_renderBall_37 rfl (lv_at hl 0 rfl) ?_
  refine fg_X9_7 C hP 0 rfl rfl dX9_renderBall_38 ?_
  refine lv_iconst (v := 5) hX hB dX9_renderBall_41 (by decide) ?_
  refine z_iald C hP 1 rfl (k := 5) (zlit 5) (by decide) (by decide) (v := g 5) rfl dX9_renderBall_42 ?_
  refine z_callVv (isC := [0, 2]) (isR := [1]) (isO := [1, 0, 2]) (n_X9_writeNumber (nI 1) (upd go 0 120) (zn (g 5)) 1) (q_X9_writeNumber cy h0 h1 h2 h3 h4 h5 h6 h7 h8 h9 0 v2 v3 v4 v5 v7 v8 v9 v10 v11) (fun o_3 => [(h0, .inr (11, [.ref h1, .ref h2, .ref h3, .ref h4, .ref h5, .int 0, .int v2, .int v3, .int v4, .int v5, .ref h6, .int o_3.1, .ref h7, .ref h8, .ref h9, .int v7, .int v8, .int v9, .int v10, .int v11])), (h1, .inl (cy 0, 64, .inl (g))), (h6, .inl (cy 0, 120, .inl (o_3.2)))]) (c_X9_writeNumber l hE D cy h0 h1 h2 h3 h4 h5 h6 h7 h8 h9 0 v2 v3 v4 v5 (nI 1) v7 v8 v9 v10 v11 (upd go 0 120) (g 5) (zn (g 5)) 1 hg5.1 (by omega) (zi_i 1) (by omega)) hE C zs_X9_193 ⟨Nat.le_of_ble_eq_true rfl, Nat.le_of_ble_eq_true rfl⟩ hP hD hS hA hE0 ⟨rfl, rfl, rfl, by decide, rfl, rfl, rfl⟩ 0 rfl rfl rfl rfl hl.1 (Nat.le_of_ble_eq_true rfl) rfl dX9_renderBall_43 ⟨Nat.le_of_ble_eq_true rfl, Nat.le_of_ble_eq_true rfl⟩ (fun o_3 H locs eo_3 hP hD hS => ?_)
  have hdg_o_3 := sb_dg_in (zn (g 5))
  refine lv_aload_n hX hB dX9_renderBall_46 rfl (lv_at hl 0 rfl) ?_
  refine lv_bipush (v := 32) hX hB dX9_renderBall_47 (by decide) ?_
  refine z_callVv (isC := [0, 2]) (isR := [1]) (isO := [1, 0, 2]) (()) (q_X9_write cy h0 h1 h2 h3 h4 h5 h6 h7 h8 h9 0 v2 v3 v4 v5 v7 v8 v9 v10 v11 o_3.2 32 (1 + sb_dg (zn (g 5)))) (fun o_4 => [(h0, .inr (11, [.ref h1, .ref h2, .ref h3, .ref h4, .ref h5, .int 0, .int v2, .int v3, .int v4, .int v5, .ref h6, .int (nI ((1 + sb_dg (zn (g 5))) + 1)), .ref h7, .ref h8, .ref h9, .int v7, .int v8, .int v9, .int v10, .int v11])), (h1, .inl (cy 0, 64, .inl (g))), (h6, .inl (cy 0, 120, .inl (upd o_3.2 (1 + sb_dg (zn (g 5))) 32)))]) (c_X9_write l hE D cy h0 h1 h2 h3 h4 h5 h6 h7 h8 h9 0 v2 v3 v4 v5 o_3.1 v7 v8 v9 v10 v11 o_3.2 32 (1 + sb_dg (zn (g 5))) (show zi o_3.1 (1 + sb_dg (zn (g 5))) from by rw [eo_3]; exact wn_n (nI 1) (upd go 0 120) (zn (g 5)) 1 (by omega)) (by omega)) hE C zs_X9_190 ⟨Nat.le_of_ble_eq_true rfl, Nat.le_of_ble_eq_true rfl⟩ hP hD hS hA hE0 ⟨rfl, rfl, rfl, by decide, rfl, rfl, rfl⟩ 0 rfl rfl rfl rfl hl.1 (Nat.le_of_ble_eq_true rfl) rfl dX9_renderBall_49 ⟨Nat.le_of_ble_eq_true rfl, Nat.le_of_ble_eq_true rfl⟩ (fun o_4 H locs eo_4 hP hD hS => ?_)
  refine lv_iconst (v := 0) hX hB dX9_renderBall_52 (by decide) ?_
  refine lv_istore_n (lv' := [(1, .int 0), (0, .ref h0)]) hX hB dX9_renderBall_53 rfl hl (by decide) rfl (fun ls hl => ?_)
  have loop_0 : ∀ (n_5 : Nat) (f1 : Nat → Int32) (q : Nat) (k : Nat), (q ≤ 20 + k) → (k ≤ 4) → 4 - k < n_5 → n_X9_renderBall_ok_L1 g n_5 f1 q k = n_X9_renderBall_ok g go → ∀ (H : Heap) (locs : List Loc), va_P D vwCl [(h0, .inr (11, [.ref h1, .ref h2, .ref h3, .ref h4, .ref h5, .int 0, .int v2, .int v3, .int v4, .int v5, .ref h6, .int (nI q), .ref h7, .ref h8, .ref h9, .int v7, .int v8, .int v9, .int v10, .int v11])), (h1, .inl (cy 0, 64, .inl (g))), (h6, .inl (cy 0, 120, .inl (f1)))] H → va_D A [(h0, .inr (11, [.ref h1, .ref h2, .ref h3, .ref h4, .ref h5, .int 0, .int v2, .int v3, .int v4, .int v5, .ref h6, .int (nI q), .ref h7, .ref h8, .ref h9, .int v7, .int v8, .int v9, .int v10, .int v11])), (h1, .inl (cy 0, 64, .inl (g))), (h6, .inl (cy 0, 120, .inl (f1)))] → va_S A sT.heap H locs → ∀ (ls : Array Slot), lv_has ls 2 [(1, .int (nI k)), (0, .ref h0)] → W pG l eN { frames := 2, cells := 0, slots := 0, locals := 43 } sT mI ([.ref h0] : List Value).toArray below meth cO H locs 0 0 (MQ below (zQi D ((q_X9_renderBall_ok cy h0 h1 h2 h3 h4 h5 h6 h7 h8 h9 v2 v3 v4 v5 v7 v8 v9 v10 v11 g) (n_X9_renderBall_ok g go)) A ((n_X9_renderBall_ok g go).1)) ([.ref h0] : List Value).toArray sT 0 0 A) (F0 mI 54 ls []) := by
    intro n_5
    induction n_5 with
    | zero =>
      intro f1 q k hb_0_0 hb_0_1 hm_0
      exact absurd hm_0 (by omega)
    | succ n_5 ih_6 =>
      intro f1 q k hb_0_0 hb_0_1 hm_0 hF_0 H locs hP hD hS ls hl
      refine lv_iload_n hX hB dX9_renderBall_54 rfl (lv_at hl 0 rfl) ?_
      refine lv_iconst (v := 4) hX hB dX9_renderBall_55 (by decide) ?_
      refine lv_icmp_ge (tgt := 89) hX hB dX9_renderBall_56 (by decide) (fun c_7 => ?_) (fun c_7 => ?_)
      · have c_7n : 4 ≤ k := (zi_le_iff (zlit 4) (zi_i k) (by decide) (by omega)).mp c_7
        refine lv_aload_n hX hB dX9_renderBall_89 rfl (lv_at hl 1 rfl) ?_
        refine lv_bipush (v := 32) hX hB dX9_renderBall_90 (by decide) ?_
        refine z_callVv (isC := [0, 2]) (isR := [1]) (isO := [1, 0, 2]) (()) (q_X9_write cy h0 h1 h2 h3 h4 h5 h6 h7 h8 h9 0 v2 v3 v4 v5 v7 v8 v9 v10 v11 f1 32 q) (fun o_8 => [(h0, .inr (11, [.ref h1, .ref h2, .ref h3, .ref h4, .ref h5, .int 0, .int v2, .int v3, .int v4, .int v5, .ref h6, .int (nI (q + 1)), .ref h7, .ref h8, .ref h9, .int v7, .int v8, .int v9, .int v10, .int v11])), (h1, .inl (cy 0, 64, .inl (g))), (h6, .inl (cy 0, 120, .inl (upd f1 q 32)))]) (c_X9_write l hE D cy h0 h1 h2 h3 h4 h5 h6 h7 h8 h9 0 v2 v3 v4 v5 (nI q) v7 v8 v9 v10 v11 f1 32 q (zi_i q) (by omega)) hE C zs_X9_190 ⟨Nat.le_of_ble_eq_true rfl, Nat.le_of_ble_eq_true rfl⟩ hP hD hS hA hE0 ⟨rfl, rfl, rfl, by decide, rfl, rfl, rfl⟩ 0 rfl rfl rfl rfl hl.1 (Nat.le_of_ble_eq_true rfl) rfl dX9_renderBall_92 ⟨Nat.le_of_ble_eq_true rfl, Nat.le_of_ble_eq_true rfl⟩ (fun o_8 H locs eo_8 hP hD hS => ?_)
        refine lv_iconst (v := 0) hX hB dX9_renderBall_95 (by decide) ?_
        refine lv_istore_n (lv' := [(1, .int 0), (0, .ref h0)]) hX hB dX9_renderBall_96 rfl hl (by decide) rfl (fun ls hl => ?_)
        have loop_1 : ∀ (n_9 : Nat) (f2 : Nat → Int32) (q2 : Nat) (k2 : Nat), (q2 ≤ 30 + k2) → (k2 ≤ 5) → 5 - k2 < n_9 → n_X9_renderBall_ok_L2 g n_9 f2 q2 k2 = n_X9_renderBall_ok g go → ∀ (H : Heap) (locs : List Loc), va_P D vwCl [(h0, .inr (11, [.ref h1, .ref h2, .ref h3, .ref h4, .ref h5, .int 0, .int v2, .int v3, .int v4, .int v5, .ref h6, .int (nI q2), .ref h7, .ref h8, .ref h9, .int v7, .int v8, .int v9, .int v10, .int v11])), (h1, .inl (cy 0, 64, .inl (g))), (h6, .inl (cy 0, 120, .inl (f2)))] H → va_D A [(h0, .inr (11, [.ref h1, .ref h2, .ref h3, .ref h4, .ref h5, .int 0, .int v2, .int v3, .int v4, .int v5, .ref h6, .int (nI q2), .ref h7, .ref h8, .ref h9, .int v7, .int v8, .int v9, .int v10, .int v11])), (h1, .inl (cy 0, 64, .inl (g))), (h6, .inl (cy 0, 120, .inl (f2)))] → va_S A sT.heap H locs → ∀ (ls : Array Slot), lv_has ls 2 [(1, .int (nI k2)), (0, .ref h0)] → W pG l eN { frames := 2, cells := 0, slots := 0, locals := 43 } sT mI ([.ref h0] : List Value).toArray below meth cO H locs 0 0 (MQ below (zQi D ((q_X9_renderBall_ok cy h0 h1 h2 h3 h4 h5 h6 h7 h8 h9 v2 v3 v4 v5 v7 v8 v9 v10 v11 g) (n_X9_renderBall_ok g go)) A ((n_X9_renderBall_ok g go).1)) ([.ref h0] : List Value).toArray sT 0 0 A) (F0 mI 97 ls []) := by
          intro n_9
          induction n_9 with
          | zero =>
            intro f2 q2 k2 hb_1_0 hb_1_1 hm_1
            exact absurd hm_1 (by omega)
          | succ n_9 ih_10 =>
            intro f2 q2 k2 hb_1_0 hb_1_1 hm_1 hF_1 H locs hP hD hS ls hl
            refine lv_iload_n hX hB dX9_renderBall_97 rfl (lv_at hl 0 rfl) ?_
            refine lv_iconst (v := 5) hX hB dX9_renderBall_98 (by decide) ?_
            refine lv_icmp_ge (tgt := 132) hX hB dX9_renderBall_99 (by decide) (fun c_11 => ?_) (fun c_11 => ?_)
            · have c_11n : 5 ≤ k2 := (zi_le_iff (zlit 5) (zi_i k2) (by decide) (by omega)).mp c_11
              refine lv_iconst (v := 0) hX hB dX9_renderBall_132 (by decide) ?_
              refine lv_istore_n (lv' := [(1, .int 0), (0, .ref h0)]) hX hB dX9_renderBall_133 rfl hl (by decide) rfl (fun ls hl => ?_)
              have loop_2 : ∀ (n_12 : Nat) (f3 : Nat → Int32) (q3 : Nat) (k3 : Nat), (q3 ≤ 40 + k3) → (k3 ≤ zn (g 9)) → zn (g 9) - k3 < n_12 → n_X9_renderBall_ok_L3 g n_12 f3 q3 k3 = n_X9_renderBall_ok g go → ∀ (H : Heap) (locs : List Loc), va_P D vwCl [(h0, .inr (11, [.ref h1, .ref h2, .ref h3, .ref h4, .ref h5, .int 0, .int v2, .int v3, .int v4, .int v5, .ref h6, .int (nI q3), .ref h7, .ref h8, .ref h9, .int v7, .int v8, .int v9, .int v10, .int v11])), (h1, .inl (cy 0, 64, .inl (g))), (h6, .inl (cy 0, 120, .inl (f3)))] H → va_D A [(h0, .inr (11, [.ref h1, .ref h2, .ref h3, .ref h4, .ref h5, .int 0, .int v2, .int v3, .int v4, .int v5, .ref h6, .int (nI q3), .ref h7, .ref h8, .ref h9, .int v7, .int v8, .int v9, .int v10, .int v11])), (h1, .inl (cy 0, 64, .inl (g))), (h6, .inl (cy 0, 120, .inl (f3)))] → va_S A sT.heap H locs → ∀ (ls : Array Slot), lv_has ls 2 [(1, .int (nI k3)), (0, .ref h0)] → W pG l eN { frames := 2, cells := 0, slots := 0, locals := 43 } sT mI ([.ref h0] : List Value).toArray below meth cO H locs 0 0 (MQ below (zQi D ((q_X9_renderBall_ok cy h0 h1 h2 h3 h4 h5 h6 h7 h8 h9 v2 v3 v4 v5 v7 v8 v9 v10 v11 g) (n_X9_renderBall_ok g go)) A ((n_X9_renderBall_ok g go).1)) ([.ref h0] : List Value).toArray sT 0 0 A) (F0 mI 134 ls []) := by
                intro n_12
                induction n_12 with
                | zero =>
                  intro f3 q3 k3 hb_2_0 hb_2_1 hm_2
                  exact absurd hm_2 (by omega)
                | succ n_12 ih_13 =>
                  intro f3 q3 k3 hb_2_0 hb_2_1 hm_2 hF_2 H locs hP hD hS ls hl
                  refine lv_iload_n hX hB dX9_renderBall_134 rfl (lv_at hl 0 rfl) ?_
                  refine lv_aload_n hX hB dX9_renderBall_135 rfl (lv_at hl 1 rfl) ?_
                  refine fg_X9_7 C hP 0 rfl rfl dX9_renderBall_136 ?_
                  refine lv_bipush (v := 9) hX hB dX9_renderBall_139 (by decide) ?_
                  refine z_iald C hP 1 rfl (k := 9) (zlit 9) (by decide) (by decide) (v := g 9) rfl dX9_renderBall_141 ?_
                  refine lv_icmp_ge (tgt := 157) hX hB dX9_renderBall_142 (by decide) (fun c_14 => ?_) (fun c_14 => ?_)
                  · have c_14n : zn (g 9) ≤ k3 := (zi_le_iff hg9.1 (zi_i k3) (by omega) (by omega)).mp c_14
                    refine lv_aload_n hX hB dX9_renderBall_157 rfl (lv_at hl 1 rfl) ?_
                    refine z_callVi (isC := [0, 1]) (isR := [2]) (isO := [1, 2, 0]) (n_X9_isTilt g) (q_X9_isTilt cy h0 h1 h2 h3 h4 h5 h6 h7 h8 h9 0 v2 v3 v4 v5 (nI q3) v7 v8 v9 v10 v11 g) (fun o_15 => [(h0, .inr (11, [.ref h1, .ref h2, .ref h3, .ref h4, .ref h5, .int 0, .int v2, .int v3, .int v4, .int v5, .ref h6, .int (nI q3), .ref h7, .ref h8, .ref h9, .int v7, .int v8, .int v9, .int v10, .int v11])), (h1, .inl (cy 0, 64, .inl (g))), (h6, .inl (cy 0, 120, .inl (f3)))]) (fun o_15 => o_15) (c_X9_isTilt l hE D cy h0 h1 h2 h3 h4 h5 h6 h7 h8 h9 0 v2 v3 v4 v5 (nI q3) v7 v8 v9 v10 v11 g ) hE C zs_X9_113 ⟨Nat.le_of_ble_eq_true rfl, Nat.le_of_ble_eq_true rfl⟩ hP hD hS hA hE0 ⟨rfl, rfl, rfl, by decide, rfl, rfl, rfl⟩ 0 rfl rfl rfl rfl hl.1 (Nat.le_of_ble_eq_true rfl) rfl dX9_renderBall_158 ⟨Nat.le_of_ble_eq_true rfl, Nat.le_of_ble_eq_true rfl⟩ (fun o_15 H locs eo_15 hP hD hS => ?_)
                    refine lv_if_eq (tgt := 170) hX hB dX9_renderBall_161 (by decide) (fun c_16 => ?_) (fun c_16 => ?_)
                    · refine lv_aload_n hX hB dX9_renderBall_170 rfl (lv_at hl 1 rfl) ?_
                      refine fg_X9_45 C hP 0 rfl rfl dX9_renderBall_171 ?_
                      exact z_iret' (nI q3, 0, nI q3, f3) (w' := q_X9_renderBall_ok cy h0 h1 h2 h3 h4 h5 h6 h7 h8 h9 v2 v3 v4 v5 v7 v8 v9 v10 v11 g) (r0 := (fun (o : Int32 × Int32 × Int32 × (Nat → Int32)) => o.1)) (hF_2.symm.trans (by simp only [n_X9_renderBall_ok_L3, if_pos c_14, ← eo_15, if_pos c_16])) C hRT hP hD hS (Nat.le_of_ble_eq_true rfl) (Nat.le_of_ble_eq_true rfl) rfl rfl dX9_renderBall_174
                    · refine lv_aload_n hX hB dX9_renderBall_164 rfl (lv_at hl 1 rfl) ?_
                      refine lv_bipush (v := 84) hX hB dX9_renderBall_165 (by decide) ?_
                      refine z_callVv (isC := [0, 2]) (isR := [1]) (isO := [1, 0, 2]) (()) (q_X9_write cy h0 h1 h2 h3 h4 h5 h6 h7 h8 h9 0 v2 v3 v4 v5 v7 v8 v9 v10 v11 f3 84 q3) (fun o_17 => [(h0, .inr (11, [.ref h1, .ref h2, .ref h3, .ref h4, .ref h5, .int 0, .int v2, .int v3, .int v4, .int v5, .ref h6, .int (nI (q3 + 1)), .ref h7, .ref h8, .ref h9, .int v7, .int v8, .int v9, .int v10, .int v11])), (h1, .inl (cy 0, 64, .inl (g))), (h6, .inl (cy 0, 120, .inl (upd f3 q3 84)))]) (c_X9_write l hE D cy h0 h1 h2 h3 h4 h5 h6 h7 h8 h9 0 v2 v3 v4 v5 (nI q3) v7 v8 v9 v10 v11 f3 84 q3 (zi_i q3) (by omega)) hE C zs_X9_190 ⟨Nat.le_of_ble_eq_true rfl, Nat.le_of_ble_eq_true rfl⟩ hP hD hS hA hE0 ⟨rfl, rfl, rfl, by decide, rfl, rfl, rfl⟩ 0 rfl rfl rfl rfl hl.1 (Nat.le_of_ble_eq_true rfl) rfl dX9_renderBall_167 ⟨Nat.le_of_ble_eq_true rfl, Nat.le_of_ble_eq_true rfl⟩ (fun o_17 H locs eo_17 hP hD hS => ?_)
                      refine lv_aload_n hX hB dX9_renderBall_170 rfl (lv_at hl 1 rfl) ?_
                      refine fg_X9_45 C hP 0 rfl rfl dX9_renderBall_171 ?_
                      exact z_iret' (nI (q3 + 1), 0, nI (q3 + 1), upd f3 q3 84) (w' := q_X9_renderBall_ok cy h0 h1 h2 h3 h4 h5 h6 h7 h8 h9 v2 v3 v4 v5 v7 v8 v9 v10 v11 g) (r0 := (fun (o : Int32 × Int32 × Int32 × (Nat → Int32)) => o.1)) (hF_2.symm.trans (by simp only [n_X9_renderBall_ok_L3, if_pos c_14, ← eo_15, if_neg c_16])) C hRT hP hD hS (Nat.le_of_ble_eq_true rfl) (Nat.le_of_ble_eq_true rfl) rfl rfl dX9_renderBall_174
                  · have c_14n : ¬ (zn (g 9) ≤ k3) := fun z => c_14 ((zi_le_iff hg9.1 (zi_i k3) (by omega) (by omega)).mpr z)
                    refine lv_aload_n hX hB dX9_renderBall_145 rfl (lv_at hl 1 rfl) ?_
                    refine lv_bipush (v := 33) hX hB dX9_renderBall_146 (by decide) ?_
                    refine z_callVv (isC := [0, 2]) (isR := [1]) (isO := [1, 0, 2]) (()) (q_X9_write cy h0 h1 h2 h3 h4 h5 h6 h7 h8 h9 0 v2 v3 v4 v5 v7 v8 v9 v10 v11 f3 33 q3) (fun o_18 => [(h0, .inr (11, [.ref h1, .ref h2, .ref h3, .ref h4, .ref h5, .int 0, .int v2, .int v3, .int v4, .int v5, .ref h6, .int (nI (q3 + 1)), .ref h7, .ref h8, .ref h9, .int v7, .int v8, .int v9, .int v10, .int v11])), (h1, .inl (cy 0, 64, .inl (g))), (h6, .inl (cy 0, 120, .inl (upd f3 q3 33)))]) (c_X9_write l hE D cy h0 h1 h2 h3 h4 h5 h6 h7 h8 h9 0 v2 v3 v4 v5 (nI q3) v7 v8 v9 v10 v11 f3 33 q3 (zi_i q3) (by omega)) hE C zs_X9_190 ⟨Nat.le_of_ble_eq_true rfl, Nat.le_of_ble_eq_true rfl⟩ hP hD hS hA hE0 ⟨rfl, rfl, rfl, by decide, rfl, rfl, rfl⟩ 0 rfl rfl rfl rfl hl.1 (Nat.le_of_ble_eq_true rfl) rfl dX9_renderBall_148 ⟨Nat.le_of_ble_eq_true rfl, Nat.le_of_ble_eq_true rfl⟩ (fun o_18 H locs eo_18 hP hD hS => ?_)
                    refine lv_iinc (v := nI (k3 + 1)) (lv' := [(1, .int (nI (k3 + 1))), (0, .ref h0)]) hX hB dX9_renderBall_151 hl (k := 0) rfl (zi_add (zi_i k3) (zlit 1)) (by decide) rfl (fun ls hl => ?_)
                    refine lv_goto (tgt := 134) hX hB dX9_renderBall_154 (by decide) ?_
                    exact ih_13 (upd f3 q3 33) (q3 + 1) (k3 + 1) (by omega) (by omega)  (by omega) (Eq.trans (by simp only [n_X9_renderBall_ok_L3, if_neg c_14]) hF_2) _ _ hP hD hS ls (lv_sub hl [0, 1] rfl)
              exact loop_2 4 f2 q2 0 (by omega) (by omega)  (by omega) (Eq.trans (by simp only [n_X9_renderBall_ok_L2, if_pos c_11]) hF_1) _ _ hP hD hS ls hl
            · have c_11n : ¬ (5 ≤ k2) := fun z => c_11 ((zi_le_iff (zlit 5) (zi_i k2) (by decide) (by omega)).mpr z)
              refine lv_aload_n hX hB dX9_renderBall_102 rfl (lv_at hl 1 rfl) ?_
              refine lv_aload_n hX hB dX9_renderBall_103 rfl (lv_at hl 1 rfl) ?_
              refine fg_X9_7 C hP 0 rfl rfl dX9_renderBall_104 ?_
              refine lv_bipush (v := 24) hX hB dX9_renderBall_107 (by decide) ?_
              refine lv_iload_n hX hB dX9_renderBall_109 rfl (lv_at hl 0 rfl) ?_
              refine z_iadd (v := nI (24 + k2)) C dX9_renderBall_110 (zi_add (zlit 24) (zi_i k2)) ?_
              refine z_iald C hP 1 rfl (k := 24 + k2) (zi_i (24 + k2)) (by omega) (by decide) (v := g (24 + k2)) rfl dX9_renderBall_111 ?_
              refine lv_iconst (v := 1) hX hB dX9_renderBall_112 (by decide) ?_
              refine lv_icmp_ne (tgt := 121) hX hB dX9_renderBall_113 (by decide) (fun c_19 => ?_) (fun c_19 => ?_)
              · refine lv_bipush (v := 124) hX hB dX9_renderBall_121 (by decide) ?_
                refine z_callVv (isC := [0, 2]) (isR := [1]) (isO := [1, 0, 2]) (()) (q_X9_write cy h0 h1 h2 h3 h4 h5 h6 h7 h8 h9 0 v2 v3 v4 v5 v7 v8 v9 v10 v11 f2 124 q2) (fun o_20 => [(h0, .inr (11, [.ref h1, .ref h2, .ref h3, .ref h4, .ref h5, .int 0, .int v2, .int v3, .int v4, .int v5, .ref h6, .int (nI (q2 + 1)), .ref h7, .ref h8, .ref h9, .int v7, .int v8, .int v9, .int v10, .int v11])), (h1, .inl (cy 0, 64, .inl (g))), (h6, .inl (cy 0, 120, .inl (upd f2 q2 124)))]) (c_X9_write l hE D cy h0 h1 h2 h3 h4 h5 h6 h7 h8 h9 0 v2 v3 v4 v5 (nI q2) v7 v8 v9 v10 v11 f2 124 q2 (zi_i q2) (by omega)) hE C zs_X9_190 ⟨Nat.le_of_ble_eq_true rfl, Nat.le_of_ble_eq_true rfl⟩ hP hD hS hA hE0 ⟨rfl, rfl, rfl, by decide, rfl, rfl, rfl⟩ 0 rfl rfl rfl rfl hl.1 (Nat.le_of_ble_eq_true rfl) rfl dX9_renderBall_123 ⟨Nat.le_of_ble_eq_true rfl, Nat.le_of_ble_eq_true rfl⟩ (fun o_20 H locs eo_20 hP hD hS => ?_)
                refine lv_iinc (v := nI (k2 + 1)) (lv' := [(1, .int (nI (k2 + 1))), (0, .ref h0)]) hX hB dX9_renderBall_126 hl (k := 0) rfl (zi_add (zi_i k2) (zlit 1)) (by decide) rfl (fun ls hl => ?_)
                refine lv_goto (tgt := 97) hX hB dX9_renderBall_129 (by decide) ?_
                exact ih_10 (upd f2 q2 124) (q2 + 1) (k2 + 1) (by omega) (by omega)  (by omega) (Eq.trans (by simp only [n_X9_renderBall_ok_L2, if_neg c_11, if_neg c_19]) hF_1) _ _ hP hD hS ls (lv_sub hl [0, 1] rfl)
              · refine lv_bipush (v := 95) hX hB dX9_renderBall_116 (by decide) ?_
                refine lv_goto (tgt := 123) hX hB dX9_renderBall_118 (by decide) ?_
                refine z_callVv (isC := [0, 2]) (isR := [1]) (isO := [1, 0, 2]) (()) (q_X9_write cy h0 h1 h2 h3 h4 h5 h6 h7 h8 h9 0 v2 v3 v4 v5 v7 v8 v9 v10 v11 f2 95 q2) (fun o_21 => [(h0, .inr (11, [.ref h1, .ref h2, .ref h3, .ref h4, .ref h5, .int 0, .int v2, .int v3, .int v4, .int v5, .ref h6, .int (nI (q2 + 1)), .ref h7, .ref h8, .ref h9, .int v7, .int v8, .int v9, .int v10, .int v11])), (h1, .inl (cy 0, 64, .inl (g))), (h6, .inl (cy 0, 120, .inl (upd f2 q2 95)))]) (c_X9_write l hE D cy h0 h1 h2 h3 h4 h5 h6 h7 h8 h9 0 v2 v3 v4 v5 (nI q2) v7 v8 v9 v10 v11 f2 95 q2 (zi_i q2) (by omega)) hE C zs_X9_190 ⟨Nat.le_of_ble_eq_true rfl, Nat.le_of_ble_eq_true rfl⟩ hP hD hS hA hE0 ⟨rfl, rfl, rfl, by decide, rfl, rfl, rfl⟩ 0 rfl rfl rfl rfl hl.1 (Nat.le_of_ble_eq_true rfl) rfl dX9_renderBall_123 ⟨Nat.le_of_ble_eq_true rfl, Nat.le_of_ble_eq_true rfl⟩ (fun o_21 H locs eo_21 hP hD hS => ?_)
                refine lv_iinc (v := nI (k2 + 1)) (lv' := [(1, .int (nI (k2 + 1))), (0, .ref h0)]) hX hB dX9_renderBall_126 hl (k := 0) rfl (zi_add (zi_i k2) (zlit 1)) (by decide) rfl (fun ls hl => ?_)
                refine lv_goto (tgt := 97) hX hB dX9_renderBall_129 (by decide) ?_
                exact ih_10 (upd f2 q2 95) (q2 + 1) (k2 + 1) (by omega) (by omega)  (by omega) (Eq.trans (by simp only [n_X9_renderBall_ok_L2, if_neg c_11, if_pos c_19]) hF_1) _ _ hP hD hS ls (lv_sub hl [0, 1] rfl)
        exact loop_1 6 (upd f1 q 32) (q + 1) 0 (by omega) (by omega)  (by omega) (Eq.trans (by simp only [n_X9_renderBall_ok_L1, if_pos c_7]) hF_0) _ _ hP hD hS ls hl
      · have c_7n : ¬ (4 ≤ k) := fun z => c_7 ((zi_le_iff (zlit 4) (zi_i k) (by decide) (by omega)).mpr z)
        refine lv_aload_n hX hB dX9_renderBall_59 rfl (lv_at hl 1 rfl) ?_
        refine lv_aload_n hX hB dX9_renderBall_60 rfl (lv_at hl 1 rfl) ?_
        refine fg_X9_7 C hP 0 rfl rfl dX9_renderBall_61 ?_
        refine lv_bipush (v := 16) hX hB dX9_renderBall_64 (by decide) ?_
        refine lv_iload_n hX hB dX9_renderBall_66 rfl (lv_at hl 0 rfl) ?_
        refine z_iadd (v := nI (16 + k)) C dX9_renderBall_67 (zi_add (zlit 16) (zi_i k)) ?_
        refine z_iald C hP 1 rfl (k := 16 + k) (zi_i (16 + k)) (by omega) (by decide) (v := g (16 + k)) rfl dX9_renderBall_68 ?_
        refine lv_iconst (v := 1) hX hB dX9_renderBall_69 (by decide) ?_
        refine lv_icmp_ne (tgt := 78) hX hB dX9_renderBall_70 (by decide) (fun c_22 => ?_) (fun c_22 => ?_)
        · refine lv_bipush (v := 46) hX hB dX9_renderBall_78 (by decide) ?_
          refine z_callVv (isC := [0, 2]) (isR := [1]) (isO := [1, 0, 2]) (()) (q_X9_write cy h0 h1 h2 h3 h4 h5 h6 h7 h8 h9 0 v2 v3 v4 v5 v7 v8 v9 v10 v11 f1 46 q) (fun o_23 => [(h0, .inr (11, [.ref h1, .ref h2, .ref h3, .ref h4, .ref h5, .int 0, .int v2, .int v3, .int v4, .int v5, .ref h6, .int (nI (q + 1)), .ref h7, .ref h8, .ref h9, .int v7, .int v8, .int v9, .int v10, .int v11])), (h1, .inl (cy 0, 64, .inl (g))), (h6, .inl (cy 0, 120, .inl (upd f1 q 46)))]) (c_X9_write l hE D cy h0 h1 h2 h3 h4 h5 h6 h7 h8 h9 0 v2 v3 v4 v5 (nI q) v7 v8 v9 v10 v11 f1 46 q (zi_i q) (by omega)) hE C zs_X9_190 ⟨Nat.le_of_ble_eq_true rfl, Nat.le_of_ble_eq_true rfl⟩ hP hD hS hA hE0 ⟨rfl, rfl, rfl, by decide, rfl, rfl, rfl⟩ 0 rfl rfl rfl rfl hl.1 (Nat.le_of_ble_eq_true rfl) rfl dX9_renderBall_80 ⟨Nat.le_of_ble_eq_true rfl, Nat.le_of_ble_eq_true rfl⟩ (fun o_23 H locs eo_23 hP hD hS => ?_)
          refine lv_iinc (v := nI (k + 1)) (lv' := [(1, .int (nI (k + 1))), (0, .ref h0)]) hX hB dX9_renderBall_83 hl (k := 0) rfl (zi_add (zi_i k) (zlit 1)) (by decide) rfl (fun ls hl => ?_)
          refine lv_goto (tgt := 54) hX hB dX9_renderBall_86 (by decide) ?_
          exact ih_6 (upd f1 q 46) (q + 1) (k + 1) (by omega) (by omega)  (by omega) (Eq.trans (by simp only [n_X9_renderBall_ok_L1, if_neg c_7, if_neg c_22]) hF_0) _ _ hP hD hS ls (lv_sub hl [0, 1] rfl)
        · refine lv_bipush (v := 42) hX hB dX9_renderBall_73 (by decide) ?_
          refine lv_goto (tgt := 80) hX hB dX9_renderBall_75 (by decide) ?_
          refine z_callVv (isC := [0, 2]) (isR := [1]) (isO := [1, 0, 2]) (()) (q_X9_write cy h0 h1 h2 h3 h4 h5 h6 h7 h8 h9 0 v2 v3 v4 v5 v7 v8 v9 v10 v11 f1 42 q) (fun o_24 => [(h0, .inr (11, [.ref h1, .ref h2, .ref h3, .ref h4, .ref h5, .int 0, .int v2, .int v3, .int v4, .int v5, .ref h6, .int (nI (q + 1)), .ref h7, .ref h8, .ref h9, .int v7, .int v8, .int v9, .int v10, .int v11])), (h1, .inl (cy 0, 64, .inl (g))), (h6, .inl (cy 0, 120, .inl (upd f1 q 42)))]) (c_X9_write l hE D cy h0 h1 h2 h3 h4 h5 h6 h7 h8 h9 0 v2 v3 v4 v5 (nI q) v7 v8 v9 v10 v11 f1 42 q (zi_i q) (by omega)) hE C zs_X9_190 ⟨Nat.le_of_ble_eq_true rfl, Nat.le_of_ble_eq_true rfl⟩ hP hD hS hA hE0 ⟨rfl, rfl, rfl, by decide, rfl, rfl, rfl⟩ 0 rfl rfl rfl rfl hl.1 (Nat.le_of_ble_eq_true rfl) rfl dX9_renderBall_80 ⟨Nat.le_of_ble_eq_true rfl, Nat.le_of_ble_eq_true rfl⟩ (fun o_24 H locs eo_24 hP hD hS => ?_)
          refine lv_iinc (v := nI (k + 1)) (lv' := [(1, .int (nI (k + 1))), (0, .ref h0)]) hX hB dX9_renderBall_83 hl (k := 0) rfl (zi_add (zi_i k) (zlit 1)) (by decide) rfl (fun ls hl => ?_)
          refine lv_goto (tgt := 54) hX hB dX9_renderBall_86 (by decide) ?_
          exact ih_6 (upd f1 q 42) (q + 1) (k + 1) (by omega) (by omega)  (by omega) (Eq.trans (by simp only [n_X9_renderBall_ok_L1, if_neg c_7, if_pos c_22]) hF_0) _ _ hP hD hS ls (lv_sub hl [0, 1] rfl)
  exact loop_0 5 (upd o_3.2 (1 + sb_dg (zn (g 5))) 32) ((1 + sb_dg (zn (g 5))) + 1) 0 (by omega) (by omega)  (by omega) (by simp only [n_X9_renderBall_ok, ← eo_3]) _ _ hP hD hS ls hl

def n_X9_renderBall_1  : Int32 :=
  1
def q_X9_renderBall_1 (cy : Nat → ClassId) (h0 : Nat) (h1 : Nat) (h2 : Nat) (h3 : Nat) (h4 : Nat) (h5 : Nat) (h6 : Nat) (h7 : Nat) (h8 : Nat) (h9 : Nat) (v2 : Int32) (v3 : Int32) (v4 : Int32) (v5 : Int32) (v6 : Int32) (v7 : Int32) (v8 : Int32) (v9 : Int32) (v10 : Int32) (v11 : Int32) (g : Nat → Int32) (go : Nat → Int32) (o : Int32) : va_W := [(h0, .inr (11, [.ref h1, .ref h2, .ref h3, .ref h4, .ref h5, .int o, .int v2, .int v3, .int v4, .int v5, .ref h6, .int v6, .ref h7, .ref h8, .ref h9, .int v7, .int v8, .int v9, .int v10, .int v11])), (h1, .inl (cy 0, 64, .inl (g))), (h6, .inl (cy 0, 120, .inl (go)))]
set_option maxHeartbeats 4000000 in
set_option maxRecDepth 100000 in
theorem c_X9_renderBall_1 (l : Launch) {E : zEn} (hE : zEok E) (D : zG) (cy : Nat → ClassId) (h0 h1 h2 h3 h4 h5 h6 h7 h8 h9 : Nat) (v1 : Int32) (v2 : Int32) (v3 : Int32) (v4 : Int32) (v5 : Int32) (v6 : Int32) (v7 : Int32) (v8 : Int32) (v9 : Int32) (v10 : Int32) (v11 : Int32) (g : Nat → Int32) (go : Nat → Int32) (hr : ¬ g 0 = 1) (sz : Nat) : Met l yX9_renderBall (zws yX9_renderBall cX9_renderBall 2 (some .int)) { frames := 1, cells := 0, slots := 0, locals := 20 } (zPre E D cy [.ref h0] [(h0, .inr (11, [.ref h1, .ref h2, .ref h3, .ref h4, .ref h5, .int v1, .int v2, .int v3, .int v4, .int v5, .ref h6, .int v6, .ref h7, .ref h8, .ref h9, .int v7, .int v8, .int v9, .int v10, .int v11])), (h1, .inl (cy 0, 64, .inl (g))), (h6, .inl (cy 0, 120, .inl (go)))] sz) (zQi D ((q_X9_renderBall_1 cy h0 h1 h2 h3 h4 h5 h6 h7 h8 h9 v2 v3 v4 v5 v6 v7 v8 v9 v10 v11 g go) n_X9_renderBall_1) (va_A [(h0, .inr (11, [.ref h1, .ref h2, .ref h3, .ref h4, .ref h5, .int v1, .int v2, .int v3, .int v4, .int v5, .ref h6, .int v6, .ref h7, .ref h8, .ref h9, .int v7, .int v8, .int v9, .int v10, .int v11])), (h1, .inl (cy 0, 64, .inl (g))), (h6, .inl (cy 0, 120, .inl (go)))] sz) (0)) 0 0 (va_A [(h0, .inr (11, [.ref h1, .ref h2, .ref h3, .ref h4, .ref h5, .int v1, .int v2, .int v3, .int v4, .int v5, .ref h6, .int v6, .ref h7, .ref h8, .ref h9, .int v7, .int v8, .int v9, .int v10, .int v11])), (h1, .inl (cy 0, 64, .inl (g))), (h6, .inl (cy 0, 120, .inl (go)))] sz) := by
  refine z_of (Qc := fun A => zQi D ((q_X9_renderBall_1 cy h0 h1 h2 h3 h4 h5 h6 h7 h8 h9 v2 v3 v4 v5 v6 v7 v8 v9 v10 v11 g go) n_X9_renderBall_1) A (0)) (by decide +kernel) (Nat.le_of_ble_eq_true rfl) rfl ?_
  intro pG eN sT mI below meth cO A ls C hRT hnm hA hP hD hS hE0 hl
  have hX := C.x
  have hB := C.b
  refine lv_aload_n hX hB dX9_renderBall_0 rfl (lv_at hl 0 rfl) ?_
  refine lv_aload_n hX hB dX9_renderBall_1 rfl (lv_at hl 0 rfl) ?_
  refine z_callVi (isC := [0, 1]) (isR := [2]) (isO := [1, 2, 0]) (()) (q_X9_runs_f cy h0 h1 h2 h3 h4 h5 h6 h7 h8 h9 v1 v2 v3 v4 v5 v6 v7 v8 v9 v10 v11 g) (fun o_1 => [(h0, .inr (11, [.ref h1, .ref h2, .ref h3, .ref h4, .ref h5, .int v1, .int v2, .int v3, .int v4, .int v5, .ref h6, .int v6, .ref h7, .ref h8, .ref h9, .int v7, .int v8, .int v9, .int v10, .int v11])), (h1, .inl (cy 0, 64, .inl (g))), (h6, .inl (cy 0, 120, .inl (go)))]) (fun o_1 => 0) (c_X9_runs_f l hE D cy h0 h1 h2 h3 h4 h5 h6 h7 h8 h9 v1 v2 v3 v4 v5 v6 v7 v8 v9 v10 v11 g hr) hE C zs_X9_76 ⟨Nat.le_of_ble_eq_true rfl, Nat.le_of_ble_eq_true rfl⟩ hP hD hS hA hE0 ⟨rfl, rfl, rfl, by decide, rfl, rfl, rfl⟩ 0 rfl rfl rfl rfl hl.1 (Nat.le_of_ble_eq_true rfl) rfl dX9_renderBall_2 ⟨Nat.le_of_ble_eq_true rfl, Nat.le_of_ble_eq_true rfl⟩ (fun o_1 H locs eo_1 hP hD hS => ?_)
  refine lv_if_eq (tgt := 12) hX hB dX9_renderBall_5 (by decide) (fun _ => ?_) (fun c => absurd (by decide) c)
  refine lv_iconst (v := 1) hX hB dX9_renderBall_12 (by decide) ?_
  refine fp_X9_25 C hP hD hS 0 rfl rfl rfl (Nat.le_of_ble_eq_true rfl) (w' := [(h0, .inr (11, [.ref h1, .ref h2, .ref h3, .ref h4, .ref h5, .int 1, .int v2, .int v3, .int v4, .int v5, .ref h6, .int v6, .ref h7, .ref h8, .ref h9, .int v7, .int v8, .int v9, .int v10, .int v11])), (h1, .inl (cy 0, 64, .inl (g))), (h6, .inl (cy 0, 120, .inl (go)))]) rfl dX9_renderBall_13 (fun H locs hP hD hS => ?_)
  refine lv_aload_n hX hB dX9_renderBall_16 rfl (lv_at hl 0 rfl) ?_
  refine fg_X9_25 C hP 0 rfl rfl dX9_renderBall_17 ?_
  refine lv_if_le (tgt := 25) hX hB dX9_renderBall_20 (by decide) (fun c => absurd c (by decide)) (fun _ => ?_)
  refine lv_iconst (v := 0) hX hB dX9_renderBall_23 (by decide) ?_
  exact z_iret' 1 (w' := q_X9_renderBall_1 cy h0 h1 h2 h3 h4 h5 h6 h7 h8 h9 v2 v3 v4 v5 v6 v7 v8 v9 v10 v11 g go) (r0 := (fun (o : Int32) => 0)) (by simp only [n_X9_renderBall_1]) C hRT hP hD hS (Nat.le_of_ble_eq_true rfl) (Nat.le_of_ble_eq_true rfl) rfl rfl dX9_renderBall_24

def n_X9_renderRecords_L1 (g : Nat → Int32) : Nat → (Nat → Int32) → Nat → Nat → Int32 × Int32 × Int32 × (Nat → Int32)
  | 0, f1, q, _ => (0, 0, nI q, f1)
  | n_1 + 1, f1, q, k =>
    if g 13 ≤ nI k then
      (nI q, 0, nI q, f1)
    else
      if nI k ≤ 0 then
        let o_5 := n_X9_writeNumber (nI q) f1 (zn (g (46 + (3 * k)))) q
        let o_7 := n_X9_writeNumber (nI ((q + sb_dg (zn (g (46 + (3 * k))))) + 1)) (upd o_5.2 (q + sb_dg (zn (g (46 + (3 * k))))) 64) (zn (g ((46 + (3 * k)) + 2))) ((q + sb_dg (zn (g (46 + (3 * k))))) + 1)
        let o_9 := n_X9_writeNumber (nI ((((q + sb_dg (zn (g (46 + (3 * k))))) + 1) + sb_dg (zn (g ((46 + (3 * k)) + 2)))) + 1)) (upd o_7.2 (((q + sb_dg (zn (g (46 + (3 * k))))) + 1) + sb_dg (zn (g ((46 + (3 * k)) + 2)))) 112) (zn (g ((46 + (3 * k)) + 1))) ((((q + sb_dg (zn (g (46 + (3 * k))))) + 1) + sb_dg (zn (g ((46 + (3 * k)) + 2)))) + 1)
        n_X9_renderRecords_L1 g n_1 o_9.2 (((((q + sb_dg (zn (g (46 + (3 * k))))) + 1) + sb_dg (zn (g ((46 + (3 * k)) + 2)))) + 1) + sb_dg (zn (g ((46 + (3 * k)) + 1)))) (k + 1)
      else
        let o_11 := n_X9_writeNumber (nI (q + 1)) (upd f1 q 44) (zn (g (46 + (3 * k)))) (q + 1)
        let o_13 := n_X9_writeNumber (nI (((q + 1) + sb_dg (zn (g (46 + (3 * k))))) + 1)) (upd o_11.2 ((q + 1) + sb_dg (zn (g (46 + (3 * k))))) 64) (zn (g ((46 + (3 * k)) + 2))) (((q + 1) + sb_dg (zn (g (46 + (3 * k))))) + 1)
        let o_15 := n_X9_writeNumber (nI (((((q + 1) + sb_dg (zn (g (46 + (3 * k))))) + 1) + sb_dg (zn (g ((46 + (3 * k)) + 2)))) + 1)) (upd o_13.2 ((((q + 1) + sb_dg (zn (g (46 + (3 * k))))) + 1) + sb_dg (zn (g ((46 + (3 * k)) + 2)))) 112) (zn (g ((46 + (3 * k)) + 1))) (((((q + 1) + sb_dg (zn (g (46 + (3 * k))))) + 1) + sb_dg (zn (g ((46 + (3 * k)) + 2)))) + 1)
        n_X9_renderRecords_L1 g n_1 o_15.2 ((((((q + 1) + sb_dg (zn (g (46 + (3 * k))))) + 1) + sb_dg (zn (g ((46 + (3 * k)) + 2)))) + 1) + sb_dg (zn (g ((46 + (3 * k)) + 1)))) (k + 1)
def n_X9_renderRecords (g : Nat → Int32) (go : Nat → Int32) : Int32 × Int32 × Int32 × (Nat → Int32) :=
  n_X9_renderRecords_L1 g 6 go 0 0
def q_X9_renderRecords (cy : Nat → ClassId) (h0 : Nat) (h1 : Nat) (h2 : Nat) (h3 : Nat) (h4 : Nat) (h5 : Nat) (h6 : Nat) (h7 : Nat) (h8 : Nat) (h9 : Nat) (v2 : Int32) (v3 : Int32) (v4 : Int32) (v5 : Int32) (v7 : Int32) (v8 : Int32) (v9 : Int32) (v10 : Int32) (v11 : Int32) (g : Nat → Int32) (o : Int32 × Int32 × Int32 × (Nat → Int32)) : va_W := [(h0, .inr (11, [.ref h1, .ref h2, .ref h3, .ref h4, .ref h5, .int o.2.1, .int v2, .int v3, .int v4, .int v5, .ref h6, .int o.2.2.1, .ref h7, .ref h8, .ref h9, .int v7, .int v8, .int v9, .int v10, .int v11])), (h1, .inl (cy 0, 64, .inl (g))), (h6, .inl (cy 0, 120, .inl (o.2.2.2)))]
set_option maxHeartbeats 4000000 in
set_option maxRecDepth 100000 in
theorem c_X9_renderRecords (l : Launch) {E : zEn} (hE : zEok E) (D : zG) (cy : Nat → ClassId) (h0 h1 h2 h3 h4 h5 h6 h7 h8 h9 : Nat) (v1 : Int32) (v2 : Int32) (v3 : Int32) (v4 : Int32) (v5 : Int32) (v6 : Int32) (v7 : Int32) (v8 : Int32) (v9 : Int32) (v10 : Int32) (v11 : Int32) (g : Nat → Int32) (go : Nat → Int32) (hq : zle (g 13) 5) (hrs : ∀ k, k < 5 → zle (g (46 + (3 * k))) 99999999 ∧ zle (g ((46 + (3 * k)) + 1)) 3 ∧ zle (g ((46 + (3 * k)) + 2)) 99999999) (sz : Nat) : Met l yX9_renderRecords (zws yX9_renderRecords cX9_renderRecords 2 (some .int)) { frames := 2, cells := 0, slots := 0, locals := 43 } (zPre E D cy [.ref h0] [(h0, .inr (11, [.ref h1, .ref h2, .ref h3, .ref h4, .ref h5, .int v1, .int v2, .int v3, .int v4, .int v5, .ref h6, .int v6, .ref h7, .ref h8, .ref h9, .int v7, .int v8, .int v9, .int v10, .int v11])), (h1, .inl (cy 0, 64, .inl (g))), (h6, .inl (cy 0, 120, .inl (go)))] sz) (zQi D ((q_X9_renderRecords cy h0 h1 h2 h3 h4 h5 h6 h7 h8 h9 v2 v3 v4 v5 v7 v8 v9 v10 v11 g) (n_X9_renderRecords g go)) (va_A [(h0, .inr (11, [.ref h1, .ref h2, .ref h3, .ref h4, .ref h5, .int v1, .int v2, .int v3, .int v4, .int v5, .ref h6, .int v6, .ref h7, .ref h8, .ref h9, .int v7, .int v8, .int v9, .int v10, .int v11])), (h1, .inl (cy 0, 64, .inl (g))), (h6, .inl (cy 0, 120, .inl (go)))] sz) ((n_X9_renderRecords g go).1)) 0 0 (va_A [(h0, .inr (11, [.ref h1, .ref h2, .ref h3, .ref h4, .ref h5, .int v1, .int v2, .int v3, .int v4, .int v5, .ref h6, .int v6, .ref h7, .ref h8, .ref h9, .int v7, .int v8, .int v9, .int v10, .int v11])), (h1, .inl (cy 0, 64, .inl (g))), (h6, .inl (cy 0, 120, .inl (go)))] sz) := by
  refine z_of (Qc := fun A => zQi D ((q_X9_renderRecords cy h0 h1 h2 h3 h4 h5 h6 h7 h8 h9 v2 v3 v4 v5 v7 v8 v9 v10 v11 g) (n_X9_renderRecords g go)) A ((n_X9_renderRecords g go).1)) (by decide +kernel) (Nat.le_of_ble_eq_true rfl) rfl ?_
  intro pG eN sT mI below meth cO A ls C hRT hnm hA hP hD hS hE0 hl
  have hX := C.x
  have hB := C.b
  have hq_ := hq.2
  refine lv_aload_n hX hB dX9_renderRecords_0 rfl (lv_at hl 0 rfl) ?_
  refine lv_iconst (v := 0) hX hB dX9_renderRecords_1 (by decide) ?_
  refine fp_X9_25 C hP hD hS 0 rfl rfl rfl (Nat.le_of_ble_eq_true rfl) (w' := [(h0, .inr (11, [.ref h1, .ref h2, .ref h3, .ref h4, .ref h5, .int 0, .int v2, .int v3, .int v4, .int v5, .ref h6, .int v6, .ref h7, .ref h8, .ref h9, .int v7, .int v8, .int v9, .int v10, .int v11])), (h1, .inl (cy 0, 64, .inl (g))), (h6, .inl (cy 0, 120, .inl (go)))]) rfl dX9_renderRecords_2 (fun H locs hP hD hS => ?_)
  refine lv_aload_n hX hB dX9_renderRecords_5 rfl (lv_at hl 0 rfl) ?_
  refine lv_iconst (v := 0) hX hB dX9_renderRecords_6 (by decide) ?_
  refine fp_X9_45 C hP hD hS 0 rfl rfl rfl (Nat.le_of_ble_eq_true rfl) (w' := [(h0, .inr (11, [.ref h1, .ref h2, .ref h3, .ref h4, .ref h5, .int 0, .int v2, .int v3, .int v4, .int v5, .ref h6, .int 0, .ref h7, .ref h8, .ref h9, .int v7, .int v8, .int v9, .int v10, .int v11])), (h1, .inl (cy 0, 64, .inl (g))), (h6, .inl (cy 0, 120, .inl (go)))]) rfl dX9_renderRecords_7 (fun H locs hP hD hS => ?_)
  refine lv_iconst (v := 0) hX hB dX9_renderRecords_10 (by decide) ?_
  refine lv_istore_n (lv' := [(1, .int 0), (0, .ref h0)]) hX hB dX9_renderRecords_11 rfl hl (by decide) rfl (fun ls hl => ?_)
  have loop_0 : ∀ (n_1 : Nat) (f1 : Nat → Int32) (q : Nat) (k : Nat), (q ≤ 20 * k) → (k ≤ zn (g 13)) → zn (g 13) - k < n_1 → n_X9_renderRecords_L1 g n_1 f1 q k = n_X9_renderRecords g go → ∀ (H : Heap) (locs : List Loc), va_P D vwCl [(h0, .inr (11, [.ref h1, .ref h2, .ref h3, .ref h4, .ref h5, .int 0, .int v2, .int v3, .int v4, .int v5, .ref h6, .int (nI q), .ref h7, .ref h8, .ref h9, .int v7, .int v8, .int v9, .int v10, .int v11])), (h1, .inl (cy 0, 64, .inl (g))), (h6, .inl (cy 0, 120, .inl (f1)))] H → va_D A [(h0, .inr (11, [.ref h1, .ref h2, .ref h3, .ref h4, .ref h5, .int 0, .int v2, .int v3, .int v4, .int v5, .ref h6, .int (nI q), .ref h7, .ref h8, .ref h9, .int v7, .int v8, .int v9, .int v10, .int v11])), (h1, .inl (cy 0, 64, .inl (g))), (h6, .inl (cy 0, 120, .inl (f1)))] → va_S A sT.heap H locs → ∀ (ls : Array Slot), lv_has ls 2 [(1, .int (nI k)), (0, .ref h0)] → W pG l eN { frames := 2, cells := 0, slots := 0, locals := 43 } sT mI ([.ref h0] : List Value).toArray below meth cO H locs 0 0 (MQ below (zQi D ((q_X9_renderRecords cy h0 h1 h2 h3 h4 h5 h6 h7 h8 h9 v2 v3 v4 v5 v7 v8 v9 v10 v11 g) (n_X9_renderRecords g go)) A ((n_X9_renderRecords g go).1)) ([.ref h0] : List Value).toArray sT 0 0 A) (F0 mI 12 ls []) := by
    intro n_1
    induction n_1 with
    | zero =>
      intro f1 q k hb_0_0 hb_0_1 hm_0
      exact absurd hm_0 (by omega)
    | succ n_1 ih_2 =>
      intro f1 q k hb_0_0 hb_0_1 hm_0 hF_0 H locs hP hD hS ls hl
      refine lv_iload_n hX hB dX9_renderRecords_12 rfl (lv_at hl 0 rfl) ?_
      refine lv_aload_n hX hB dX9_renderRecords_13 rfl (lv_at hl 1 rfl) ?_
      refine fg_X9_7 C hP 0 rfl rfl dX9_renderRecords_14 ?_
      refine lv_bipush (v := 13) hX hB dX9_renderRecords_17 (by decide) ?_
      refine z_iald C hP 1 rfl (k := 13) (zlit 13) (by decide) (by decide) (v := g 13) rfl dX9_renderRecords_19 ?_
      refine lv_icmp_ge (tgt := 100) hX hB dX9_renderRecords_20 (by decide) (fun c_3 => ?_) (fun c_3 => ?_)
      · have c_3n : zn (g 13) ≤ k := (zi_le_iff hq.1 (zi_i k) (by omega) (by omega)).mp c_3
        refine lv_aload_n hX hB dX9_renderRecords_100 rfl (lv_at hl 1 rfl) ?_
        refine fg_X9_45 C hP 0 rfl rfl dX9_renderRecords_101 ?_
        exact z_iret' (nI q, 0, nI q, f1) (w' := q_X9_renderRecords cy h0 h1 h2 h3 h4 h5 h6 h7 h8 h9 v2 v3 v4 v5 v7 v8 v9 v10 v11 g) (r0 := (fun (o : Int32 × Int32 × Int32 × (Nat → Int32)) => o.1)) (hF_0.symm.trans (by simp only [n_X9_renderRecords_L1, if_pos c_3])) C hRT hP hD hS (Nat.le_of_ble_eq_true rfl) (Nat.le_of_ble_eq_true rfl) rfl rfl dX9_renderRecords_104
      · have c_3n : ¬ (zn (g 13) ≤ k) := fun z => c_3 ((zi_le_iff hq.1 (zi_i k) (by omega) (by omega)).mpr z)
        have hr1 := (hrs k (by omega)).1.2
        have hr2 := (hrs k (by omega)).2.1.2
        have hr3 := (hrs k (by omega)).2.2.2
        have hr4 := dg8 hr1
        have hr5 := dg1 hr2
        have hr6 := dg8 hr3
        refine lv_iload_n hX hB dX9_renderRecords_23 rfl (lv_at hl 0 rfl) ?_
        refine lv_if_le (tgt := 33) hX hB dX9_renderRecords_24 (by decide) (fun c_4 => ?_) (fun c_4 => ?_)
        · have c_4n : k ≤ 0 := (zi_le_iff (zi_i k) (zlit 0) (by omega) (by decide)).mp c_4
          refine lv_aload_n hX hB dX9_renderRecords_33 rfl (lv_at hl 1 rfl) ?_
          refine lv_aload_n hX hB dX9_renderRecords_34 rfl (lv_at hl 1 rfl) ?_
          refine fg_X9_7 C hP 0 rfl rfl dX9_renderRecords_35 ?_
          refine lv_bipush (v := 46) hX hB dX9_renderRecords_38 (by decide) ?_
          refine lv_iconst (v := 3) hX hB dX9_renderRecords_40 (by decide) ?_
          refine lv_iload_n hX hB dX9_renderRecords_41 rfl (lv_at hl 0 rfl) ?_
          refine z_imul (v := nI (3 * k)) C dX9_renderRecords_42 (zi_mul (zlit 3) (zi_i k)) ?_
          refine z_iadd (v := nI (46 + (3 * k))) C dX9_renderRecords_43 (zi_add (zlit 46) (zi_i (3 * k))) ?_
          refine z_iald C hP 1 rfl (k := 46 + (3 * k)) (zi_i (46 + (3 * k))) (by omega) (by decide) (v := g (46 + (3 * k))) rfl dX9_renderRecords_44 ?_
          refine z_callVv (isC := [0, 2]) (isR := [1]) (isO := [1, 0, 2]) (n_X9_writeNumber (nI q) f1 (zn (g (46 + (3 * k)))) q) (q_X9_writeNumber cy h0 h1 h2 h3 h4 h5 h6 h7 h8 h9 0 v2 v3 v4 v5 v7 v8 v9 v10 v11) (fun o_5 => [(h0, .inr (11, [.ref h1, .ref h2, .ref h3, .ref h4, .ref h5, .int 0, .int v2, .int v3, .int v4, .int v5, .ref h6, .int o_5.1, .ref h7, .ref h8, .ref h9, .int v7, .int v8, .int v9, .int v10, .int v11])), (h1, .inl (cy 0, 64, .inl (g))), (h6, .inl (cy 0, 120, .inl (o_5.2)))]) (c_X9_writeNumber l hE D cy h0 h1 h2 h3 h4 h5 h6 h7 h8 h9 0 v2 v3 v4 v5 (nI q) v7 v8 v9 v10 v11 f1 (g (46 + (3 * k))) (zn (g (46 + (3 * k)))) q (hrs k (by omega)).1.1 (by omega) (zi_i q) (by omega)) hE C zs_X9_193 ⟨Nat.le_of_ble_eq_true rfl, Nat.le_of_ble_eq_true rfl⟩ hP hD hS hA hE0 ⟨rfl, rfl, rfl, by decide, rfl, rfl, rfl⟩ 0 rfl rfl rfl rfl hl.1 (Nat.le_of_ble_eq_true rfl) rfl dX9_renderRecords_45 ⟨Nat.le_of_ble_eq_true rfl, Nat.le_of_ble_eq_true rfl⟩ (fun o_5 H locs eo_5 hP hD hS => ?_)
          have hdg_o_5 := sb_dg_in (zn (g (46 + (3 * k))))
          refine lv_aload_n hX hB dX9_renderRecords_48 rfl (lv_at hl 1 rfl) ?_
          refine lv_bipush (v := 64) hX hB dX9_renderRecords_49 (by decide) ?_
          refine z_callVv (isC := [0, 2]) (isR := [1]) (isO := [1, 0, 2]) (()) (q_X9_write cy h0 h1 h2 h3 h4 h5 h6 h7 h8 h9 0 v2 v3 v4 v5 v7 v8 v9 v10 v11 o_5.2 64 (q + sb_dg (zn (g (46 + (3 * k)))))) (fun o_6 => [(h0, .inr (11, [.ref h1, .ref h2, .ref h3, .ref h4, .ref h5, .int 0, .int v2, .int v3, .int v4, .int v5, .ref h6, .int (nI ((q + sb_dg (zn (g (46 + (3 * k))))) + 1)), .ref h7, .ref h8, .ref h9, .int v7, .int v8, .int v9, .int v10, .int v11])), (h1, .inl (cy 0, 64, .inl (g))), (h6, .inl (cy 0, 120, .inl (upd o_5.2 (q + sb_dg (zn (g (46 + (3 * k))))) 64)))]) (c_X9_write l hE D cy h0 h1 h2 h3 h4 h5 h6 h7 h8 h9 0 v2 v3 v4 v5 o_5.1 v7 v8 v9 v10 v11 o_5.2 64 (q + sb_dg (zn (g (46 + (3 * k))))) (show zi o_5.1 (q + sb_dg (zn (g (46 + (3 * k))))) from by rw [eo_5]; exact wn_n (nI q) f1 (zn (g (46 + (3 * k)))) q (by omega)) (by omega)) hE C zs_X9_190 ⟨Nat.le_of_ble_eq_true rfl, Nat.le_of_ble_eq_true rfl⟩ hP hD hS hA hE0 ⟨rfl, rfl, rfl, by decide, rfl, rfl, rfl⟩ 0 rfl rfl rfl rfl hl.1 (Nat.le_of_ble_eq_true rfl) rfl dX9_renderRecords_51 ⟨Nat.le_of_ble_eq_true rfl, Nat.le_of_ble_eq_true rfl⟩ (fun o_6 H locs eo_6 hP hD hS => ?_)
          refine lv_aload_n hX hB dX9_renderRecords_54 rfl (lv_at hl 1 rfl) ?_
          refine lv_aload_n hX hB dX9_renderRecords_55 rfl (lv_at hl 1 rfl) ?_
          refine fg_X9_7 C hP 0 rfl rfl dX9_renderRecords_56 ?_
          refine lv_bipush (v := 46) hX hB dX9_renderRecords_59 (by decide) ?_
          refine lv_iconst (v := 3) hX hB dX9_renderRecords_61 (by decide) ?_
          refine lv_iload_n hX hB dX9_renderRecords_62 rfl (lv_at hl 0 rfl) ?_
          refine z_imul (v := nI (3 * k)) C dX9_renderRecords_63 (zi_mul (zlit 3) (zi_i k)) ?_
          refine z_iadd (v := nI (46 + (3 * k))) C dX9_renderRecords_64 (zi_add (zlit 46) (zi_i (3 * k))) ?_
          refine lv_iconst (v := 2) hX hB dX9_renderRecords_65 (by decide) ?_
          refine z_iadd (v := nI ((46 + (3 * k)) + 2)) C dX9_renderRecords_66 (zi_add (zi_i (46 + (3 * k))) (zlit 2)) ?_
          refine z_iald C hP 1 rfl (k := (46 + (3 * k)) + 2) (zi_i ((46 + (3 * k)) + 2)) (by omega) (by decide) (v := g ((46 + (3 * k)) + 2)) rfl dX9_renderRecords_67 ?_
          refine z_callVv (isC := [0, 2]) (isR := [1]) (isO := [1, 0, 2]) (n_X9_writeNumber (nI ((q + sb_dg (zn (g (46 + (3 * k))))) + 1)) (upd o_5.2 (q + sb_dg (zn (g (46 + (3 * k))))) 64) (zn (g ((46 + (3 * k)) + 2))) ((q + sb_dg (zn (g (46 + (3 * k))))) + 1)) (q_X9_writeNumber cy h0 h1 h2 h3 h4 h5 h6 h7 h8 h9 0 v2 v3 v4 v5 v7 v8 v9 v10 v11) (fun o_7 => [(h0, .inr (11, [.ref h1, .ref h2, .ref h3, .ref h4, .ref h5, .int 0, .int v2, .int v3, .int v4, .int v5, .ref h6, .int o_7.1, .ref h7, .ref h8, .ref h9, .int v7, .int v8, .int v9, .int v10, .int v11])), (h1, .inl (cy 0, 64, .inl (g))), (h6, .inl (cy 0, 120, .inl (o_7.2)))]) (c_X9_writeNumber l hE D cy h0 h1 h2 h3 h4 h5 h6 h7 h8 h9 0 v2 v3 v4 v5 (nI ((q + sb_dg (zn (g (46 + (3 * k))))) + 1)) v7 v8 v9 v10 v11 (upd o_5.2 (q + sb_dg (zn (g (46 + (3 * k))))) 64) (g ((46 + (3 * k)) + 2)) (zn (g ((46 + (3 * k)) + 2))) ((q + sb_dg (zn (g (46 + (3 * k))))) + 1) (hrs k (by omega)).2.2.1 (by omega) (zi_i ((q + sb_dg (zn (g (46 + (3 * k))))) + 1)) (by omega)) hE C zs_X9_193 ⟨Nat.le_of_ble_eq_true rfl, Nat.le_of_ble_eq_true rfl⟩ hP hD hS hA hE0 ⟨rfl, rfl, rfl, by decide, rfl, rfl, rfl⟩ 0 rfl rfl rfl rfl hl.1 (Nat.le_of_ble_eq_true rfl) rfl dX9_renderRecords_68 ⟨Nat.le_of_ble_eq_true rfl, Nat.le_of_ble_eq_true rfl⟩ (fun o_7 H locs eo_7 hP hD hS => ?_)
          have hdg_o_7 := sb_dg_in (zn (g ((46 + (3 * k)) + 2)))
          refine lv_aload_n hX hB dX9_renderRecords_71 rfl (lv_at hl 1 rfl) ?_
          refine lv_bipush (v := 112) hX hB dX9_renderRecords_72 (by decide) ?_
          refine z_callVv (isC := [0, 2]) (isR := [1]) (isO := [1, 0, 2]) (()) (q_X9_write cy h0 h1 h2 h3 h4 h5 h6 h7 h8 h9 0 v2 v3 v4 v5 v7 v8 v9 v10 v11 o_7.2 112 (((q + sb_dg (zn (g (46 + (3 * k))))) + 1) + sb_dg (zn (g ((46 + (3 * k)) + 2))))) (fun o_8 => [(h0, .inr (11, [.ref h1, .ref h2, .ref h3, .ref h4, .ref h5, .int 0, .int v2, .int v3, .int v4, .int v5, .ref h6, .int (nI ((((q + sb_dg (zn (g (46 + (3 * k))))) + 1) + sb_dg (zn (g ((46 + (3 * k)) + 2)))) + 1)), .ref h7, .ref h8, .ref h9, .int v7, .int v8, .int v9, .int v10, .int v11])), (h1, .inl (cy 0, 64, .inl (g))), (h6, .inl (cy 0, 120, .inl (upd o_7.2 (((q + sb_dg (zn (g (46 + (3 * k))))) + 1) + sb_dg (zn (g ((46 + (3 * k)) + 2)))) 112)))]) (c_X9_write l hE D cy h0 h1 h2 h3 h4 h5 h6 h7 h8 h9 0 v2 v3 v4 v5 o_7.1 v7 v8 v9 v10 v11 o_7.2 112 (((q + sb_dg (zn (g (46 + (3 * k))))) + 1) + sb_dg (zn (g ((46 + (3 * k)) + 2)))) (show zi o_7.1 (((q + sb_dg (zn (g (46 + (3 * k))))) + 1) + sb_dg (zn (g ((46 + (3 * k)) + 2)))) from by rw [eo_7]; exact wn_n (nI ((q + sb_dg (zn (g (46 + (3 * k))))) + 1)) (upd o_5.2 (q + sb_dg (zn (g (46 + (3 * k))))) 64) (zn (g ((46 + (3 * k)) + 2))) ((q + sb_dg (zn (g (46 + (3 * k))))) + 1) (by omega)) (by omega)) hE C zs_X9_190 ⟨Nat.le_of_ble_eq_true rfl, Nat.le_of_ble_eq_true rfl⟩ hP hD hS hA hE0 ⟨rfl, rfl, rfl, by decide, rfl, rfl, rfl⟩ 0 rfl rfl rfl rfl hl.1 (Nat.le_of_ble_eq_true rfl) rfl dX9_renderRecords_74 ⟨Nat.le_of_ble_eq_true rfl, Nat.le_of_ble_eq_true rfl⟩ (fun o_8 H locs eo_8 hP hD hS => ?_)
          refine lv_aload_n hX hB dX9_renderRecords_77 rfl (lv_at hl 1 rfl) ?_
          refine lv_aload_n hX hB dX9_renderRecords_78 rfl (lv_at hl 1 rfl) ?_
          refine fg_X9_7 C hP 0 rfl rfl dX9_renderRecords_79 ?_
          refine lv_bipush (v := 46) hX hB dX9_renderRecords_82 (by decide) ?_
          refine lv_iconst (v := 3) hX hB dX9_renderRecords_84 (by decide) ?_
          refine lv_iload_n hX hB dX9_renderRecords_85 rfl (lv_at hl 0 rfl) ?_
          refine z_imul (v := nI (3 * k)) C dX9_renderRecords_86 (zi_mul (zlit 3) (zi_i k)) ?_
          refine z_iadd (v := nI (46 + (3 * k))) C dX9_renderRecords_87 (zi_add (zlit 46) (zi_i (3 * k))) ?_
          refine lv_iconst (v := 1) hX hB dX9_renderRecords_88 (by decide) ?_
          refine z_iadd (v := nI ((46 + (3 * k)) + 1)) C dX9_renderRecords_89 (zi_add (zi_i (46 + (3 * k))) (zlit 1)) ?_
          refine z_iald C hP 1 rfl (k := (46 + (3 * k)) + 1) (zi_i ((46 + (3 * k)) + 1)) (by omega) (by decide) (v := g ((46 + (3 * k)) + 1)) rfl dX9_renderRecords_90 ?_
          refine z_callVv (isC := [0, 2]) (isR := [1]) (isO := [1, 0, 2]) (n_X9_writeNumber (nI ((((q + sb_dg (zn (g (46 + (3 * k))))) + 1) + sb_dg (zn (g ((46 + (3 * k)) + 2)))) + 1)) (upd o_7.2 (((q + sb_dg (zn (g (46 + (3 * k))))) + 1) + sb_dg (zn (g ((46 + (3 * k)) + 2)))) 112) (zn (g ((46 + (3 * k)) + 1))) ((((q + sb_dg (zn (g (46 + (3 * k))))) + 1) + sb_dg (zn (g ((46 + (3 * k)) + 2)))) + 1)) (q_X9_writeNumber cy h0 h1 h2 h3 h4 h5 h6 h7 h8 h9 0 v2 v3 v4 v5 v7 v8 v9 v10 v11) (fun o_9 => [(h0, .inr (11, [.ref h1, .ref h2, .ref h3, .ref h4, .ref h5, .int 0, .int v2, .int v3, .int v4, .int v5, .ref h6, .int o_9.1, .ref h7, .ref h8, .ref h9, .int v7, .int v8, .int v9, .int v10, .int v11])), (h1, .inl (cy 0, 64, .inl (g))), (h6, .inl (cy 0, 120, .inl (o_9.2)))]) (c_X9_writeNumber l hE D cy h0 h1 h2 h3 h4 h5 h6 h7 h8 h9 0 v2 v3 v4 v5 (nI ((((q + sb_dg (zn (g (46 + (3 * k))))) + 1) + sb_dg (zn (g ((46 + (3 * k)) + 2)))) + 1)) v7 v8 v9 v10 v11 (upd o_7.2 (((q + sb_dg (zn (g (46 + (3 * k))))) + 1) + sb_dg (zn (g ((46 + (3 * k)) + 2)))) 112) (g ((46 + (3 * k)) + 1)) (zn (g ((46 + (3 * k)) + 1))) ((((q + sb_dg (zn (g (46 + (3 * k))))) + 1) + sb_dg (zn (g ((46 + (3 * k)) + 2)))) + 1) (hrs k (by omega)).2.1.1 (by omega) (zi_i ((((q + sb_dg (zn (g (46 + (3 * k))))) + 1) + sb_dg (zn (g ((46 + (3 * k)) + 2)))) + 1)) (by omega)) hE C zs_X9_193 ⟨Nat.le_of_ble_eq_true rfl, Nat.le_of_ble_eq_true rfl⟩ hP hD hS hA hE0 ⟨rfl, rfl, rfl, by decide, rfl, rfl, rfl⟩ 0 rfl rfl rfl rfl hl.1 (Nat.le_of_ble_eq_true rfl) rfl dX9_renderRecords_91 ⟨Nat.le_of_ble_eq_true rfl, Nat.le_of_ble_eq_true rfl⟩ (fun o_9 H locs eo_9 hP hD hS => ?_)
          have hdg_o_9 := sb_dg_in (zn (g ((46 + (3 * k)) + 1)))
          refine lv_iinc (v := nI (k + 1)) (lv' := [(1, .int (nI (k + 1))), (0, .ref h0)]) hX hB dX9_renderRecords_94 hl (k := 0) rfl (zi_add (zi_i k) (zlit 1)) (by decide) rfl (fun ls hl => ?_)
          refine lv_goto (tgt := 12) hX hB dX9_renderRecords_97 (by decide) ?_
          rw [show o_9.1 = nI (((((q + sb_dg (zn (g (46 + (3 * k))))) + 1) + sb_dg (zn (g ((46 + (3 * k)) + 2)))) + 1) + sb_dg (zn (g ((46 + (3 * k)) + 1)))) from (show zi o_9.1 (((((q + sb_dg (zn (g (46 + (3 * k))))) + 1) + sb_dg (zn (g ((46 + (3 * k)) + 2)))) + 1) + sb_dg (zn (g ((46 + (3 * k)) + 1)))) from by rw [eo_9]; exact wn_n (nI ((((q + sb_dg (zn (g (46 + (3 * k))))) + 1) + sb_dg (zn (g ((46 + (3 * k)) + 2)))) + 1)) (upd o_7.2 (((q + sb_dg (zn (g (46 + (3 * k))))) + 1) + sb_dg (zn (g ((46 + (3 * k)) + 2)))) 112) (zn (g ((46 + (3 * k)) + 1))) ((((q + sb_dg (zn (g (46 + (3 * k))))) + 1) + sb_dg (zn (g ((46 + (3 * k)) + 2)))) + 1) (by omega))] at hP hD
          exact ih_2 o_9.2 (((((q + sb_dg (zn (g (46 + (3 * k))))) + 1) + sb_dg (zn (g ((46 + (3 * k)) + 2)))) + 1) + sb_dg (zn (g ((46 + (3 * k)) + 1)))) (k + 1) (by omega) (by omega)  (by omega) (Eq.trans (by simp only [n_X9_renderRecords_L1, if_neg c_3, if_pos c_4, ← eo_5, ← eo_7, ← eo_9]) hF_0) _ _ hP hD hS ls (lv_sub hl [0, 1] rfl)
        · have c_4n : ¬ (k ≤ 0) := fun z => c_4 ((zi_le_iff (zi_i k) (zlit 0) (by omega) (by decide)).mpr z)
          refine lv_aload_n hX hB dX9_renderRecords_27 rfl (lv_at hl 1 rfl) ?_
          refine lv_bipush (v := 44) hX hB dX9_renderRecords_28 (by decide) ?_
          refine z_callVv (isC := [0, 2]) (isR := [1]) (isO := [1, 0, 2]) (()) (q_X9_write cy h0 h1 h2 h3 h4 h5 h6 h7 h8 h9 0 v2 v3 v4 v5 v7 v8 v9 v10 v11 f1 44 q) (fun o_10 => [(h0, .inr (11, [.ref h1, .ref h2, .ref h3, .ref h4, .ref h5, .int 0, .int v2, .int v3, .int v4, .int v5, .ref h6, .int (nI (q + 1)), .ref h7, .ref h8, .ref h9, .int v7, .int v8, .int v9, .int v10, .int v11])), (h1, .inl (cy 0, 64, .inl (g))), (h6, .inl (cy 0, 120, .inl (upd f1 q 44)))]) (c_X9_write l hE D cy h0 h1 h2 h3 h4 h5 h6 h7 h8 h9 0 v2 v3 v4 v5 (nI q) v7 v8 v9 v10 v11 f1 44 q (zi_i q) (by omega)) hE C zs_X9_190 ⟨Nat.le_of_ble_eq_true rfl, Nat.le_of_ble_eq_true rfl⟩ hP hD hS hA hE0 ⟨rfl, rfl, rfl, by decide, rfl, rfl, rfl⟩ 0 rfl rfl rfl rfl hl.1 (Nat.le_of_ble_eq_true rfl) rfl dX9_renderRecords_30 ⟨Nat.le_of_ble_eq_true rfl, Nat.le_of_ble_eq_true rfl⟩ (fun o_10 H locs eo_10 hP hD hS => ?_)
          refine lv_aload_n hX hB dX9_renderRecords_33 rfl (lv_at hl 1 rfl) ?_
          refine lv_aload_n hX hB dX9_renderRecords_34 rfl (lv_at hl 1 rfl) ?_
          refine fg_X9_7 C hP 0 rfl rfl dX9_renderRecords_35 ?_
          refine lv_bipush (v := 46) hX hB dX9_renderRecords_38 (by decide) ?_
          refine lv_iconst (v := 3) hX hB dX9_renderRecords_40 (by decide) ?_
          refine lv_iload_n hX hB dX9_renderRecords_41 rfl (lv_at hl 0 rfl) ?_
          refine z_imul (v := nI (3 * k)) C dX9_renderRecords_42 (zi_mul (zlit 3) (zi_i k)) ?_
          refine z_iadd (v := nI (46 + (3 * k))) C dX9_renderRecords_43 (zi_add (zlit 46) (zi_i (3 * k))) ?_
          refine z_iald C hP 1 rfl (k := 46 + (3 * k)) (zi_i (46 + (3 * k))) (by omega) (by decide) (v := g (46 + (3 * k))) rfl dX9_renderRecords_44 ?_
          refine z_callVv (isC := [0, 2]) (isR := [1]) (isO := [1, 0, 2]) (n_X9_writeNumber (nI (q + 1)) (upd f1 q 44) (zn (g (46 + (3 * k)))) (q + 1)) (q_X9_writeNumber cy h0 h1 h2 h3 h4 h5 h6 h7 h8 h9 0 v2 v3 v4 v5 v7 v8 v9 v10 v11) (fun o_11 => [(h0, .inr (11, [.ref h1, .ref h2, .ref h3, .ref h4, .ref h5, .int 0, .int v2, .int v3, .int v4, .int v5, .ref h6, .int o_11.1, .ref h7, .ref h8, .ref h9, .int v7, .int v8, .int v9, .int v10, .int v11])), (h1, .inl (cy 0, 64, .inl (g))), (h6, .inl (cy 0, 120, .inl (o_11.2)))]) (c_X9_writeNumber l hE D cy h0 h1 h2 h3 h4 h5 h6 h7 h8 h9 0 v2 v3 v4 v5 (nI (q + 1)) v7 v8 v9 v10 v11 (upd f1 q 44) (g (46 + (3 * k))) (zn (g (46 + (3 * k)))) (q + 1) (hrs k (by omega)).1.1 (by omega) (zi_i (q + 1)) (by omega)) hE C zs_X9_193 ⟨Nat.le_of_ble_eq_true rfl, Nat.le_of_ble_eq_true rfl⟩ hP hD hS hA hE0 ⟨rfl, rfl, rfl, by decide, rfl, rfl, rfl⟩ 0 rfl rfl rfl rfl hl.1 (Nat.le_of_ble_eq_true rfl) rfl dX9_renderRecords_45 ⟨Nat.le_of_ble_eq_true rfl, Nat.le_of_ble_eq_true rfl⟩ (fun o_11 H locs eo_11 hP hD hS => ?_)
          have hdg_o_11 := sb_dg_in (zn (g (46 + (3 * k))))
          refine lv_aload_n hX hB dX9_renderRecords_48 rfl (lv_at hl 1 rfl) ?_
          refine lv_bipush (v := 64) hX hB dX9_renderRecords_49 (by decide) ?_
          refine z_callVv (isC := [0, 2]) (isR := [1]) (isO := [1, 0, 2]) (()) (q_X9_write cy h0 h1 h2 h3 h4 h5 h6 h7 h8 h9 0 v2 v3 v4 v5 v7 v8 v9 v10 v11 o_11.2 64 ((q + 1) + sb_dg (zn (g (46 + (3 * k)))))) (fun o_12 => [(h0, .inr (11, [.ref h1, .ref h2, .ref h3, .ref h4, .ref h5, .int 0, .int v2, .int v3, .int v4, .int v5, .ref h6, .int (nI (((q + 1) + sb_dg (zn (g (46 + (3 * k))))) + 1)), .ref h7, .ref h8, .ref h9, .int v7, .int v8, .int v9, .int v10, .int v11])), (h1, .inl (cy 0, 64, .inl (g))), (h6, .inl (cy 0, 120, .inl (upd o_11.2 ((q + 1) + sb_dg (zn (g (46 + (3 * k))))) 64)))]) (c_X9_write l hE D cy h0 h1 h2 h3 h4 h5 h6 h7 h8 h9 0 v2 v3 v4 v5 o_11.1 v7 v8 v9 v10 v11 o_11.2 64 ((q + 1) + sb_dg (zn (g (46 + (3 * k))))) (show zi o_11.1 ((q + 1) + sb_dg (zn (g (46 + (3 * k))))) from by rw [eo_11]; exact wn_n (nI (q + 1)) (upd f1 q 44) (zn (g (46 + (3 * k)))) (q + 1) (by omega)) (by omega)) hE C zs_X9_190 ⟨Nat.le_of_ble_eq_true rfl, Nat.le_of_ble_eq_true rfl⟩ hP hD hS hA hE0 ⟨rfl, rfl, rfl, by decide, rfl, rfl, rfl⟩ 0 rfl rfl rfl rfl hl.1 (Nat.le_of_ble_eq_true rfl) rfl dX9_renderRecords_51 ⟨Nat.le_of_ble_eq_true rfl, Nat.le_of_ble_eq_true rfl⟩ (fun o_12 H locs eo_12 hP hD hS => ?_)
          refine lv_aload_n hX hB dX9_renderRecords_54 rfl (lv_at hl 1 rfl) ?_
          refine lv_aload_n hX hB dX9_renderRecords_55 rfl (lv_at hl 1 rfl) ?_
          refine fg_X9_7 C hP 0 rfl rfl dX9_renderRecords_56 ?_
          refine lv_bipush (v := 46) hX hB dX9_renderRecords_59 (by decide) ?_
          refine lv_iconst (v := 3) hX hB dX9_renderRecords_61 (by decide) ?_
          refine lv_iload_n hX hB dX9_renderRecords_62 rfl (lv_at hl 0 rfl) ?_
          refine z_imul (v := nI (3 * k)) C dX9_renderRecords_63 (zi_mul (zlit 3) (zi_i k)) ?_
          refine z_iadd (v := nI (46 + (3 * k))) C dX9_renderRecords_64 (zi_add (zlit 46) (zi_i (3 * k))) ?_
          refine lv_iconst (v := 2) hX hB dX9_renderRecords_65 (by decide) ?_
          refine z_iadd (v := nI ((46 + (3 * k)) + 2)) C dX9_renderRecords_66 (zi_add (zi_i (46 + (3 * k))) (zlit 2)) ?_
          refine z_iald C hP 1 rfl (k := (46 + (3 * k)) + 2) (zi_i ((46 + (3 * k)) + 2)) (by omega) (by decide) (v := g ((46 + (3 * k)) + 2)) rfl dX9_renderRecords_67 ?_
          refine z_callVv (isC := [0, 2]) (isR := [1]) (isO := [1, 0, 2]) (n_X9_writeNumber (nI (((q + 1) + sb_dg (zn (g (46 + (3 * k))))) + 1)) (upd o_11.2 ((q + 1) + sb_dg (zn (g (46 + (3 * k))))) 64) (zn (g ((46 + (3 * k)) + 2))) (((q + 1) + sb_dg (zn (g (46 + (3 * k))))) + 1)) (q_X9_writeNumber cy h0 h1 h2 h3 h4 h5 h6 h7 h8 h9 0 v2 v3 v4 v5 v7 v8 v9 v10 v11) (fun o_13 => [(h0, .inr (11, [.ref h1, .ref h2, .ref h3, .ref h4, .ref h5, .int 0, .int v2, .int v3, .int v4, .int v5, .ref h6, .int o_13.1, .ref h7, .ref h8, .ref h9, .int v7, .int v8, .int v9, .int v10, .int v11])), (h1, .inl (cy 0, 64, .inl (g))), (h6, .inl (cy 0, 120, .inl (o_13.2)))]) (c_X9_writeNumber l hE D cy h0 h1 h2 h3 h4 h5 h6 h7 h8 h9 0 v2 v3 v4 v5 (nI (((q + 1) + sb_dg (zn (g (46 + (3 * k))))) + 1)) v7 v8 v9 v10 v11 (upd o_11.2 ((q + 1) + sb_dg (zn (g (46 + (3 * k))))) 64) (g ((46 + (3 * k)) + 2)) (zn (g ((46 + (3 * k)) + 2))) (((q + 1) + sb_dg (zn (g (46 + (3 * k))))) + 1) (hrs k (by omega)).2.2.1 (by omega) (zi_i (((q + 1) + sb_dg (zn (g (46 + (3 * k))))) + 1)) (by omega)) hE C zs_X9_193 ⟨Nat.le_of_ble_eq_true rfl, Nat.le_of_ble_eq_true rfl⟩ hP hD hS hA hE0 ⟨rfl, rfl, rfl, by decide, rfl, rfl, rfl⟩ 0 rfl rfl rfl rfl hl.1 (Nat.le_of_ble_eq_true rfl) rfl dX9_renderRecords_68 ⟨Nat.le_of_ble_eq_true rfl, Nat.le_of_ble_eq_true rfl⟩ (fun o_13 H locs eo_13 hP hD hS => ?_)
          have hdg_o_13 := sb_dg_in (zn (g ((46 + (3 * k)) + 2)))
          refine lv_aload_n hX hB dX9_renderRecords_71 rfl (lv_at hl 1 rfl) ?_
          refine lv_bipush (v := 112) hX hB dX9_renderRecords_72 (by decide) ?_
          refine z_callVv (isC := [0, 2]) (isR := [1]) (isO := [1, 0, 2]) (()) (q_X9_write cy h0 h1 h2 h3 h4 h5 h6 h7 h8 h9 0 v2 v3 v4 v5 v7 v8 v9 v10 v11 o_13.2 112 ((((q + 1) + sb_dg (zn (g (46 + (3 * k))))) + 1) + sb_dg (zn (g ((46 + (3 * k)) + 2))))) (fun o_14 => [(h0, .inr (11, [.ref h1, .ref h2, .ref h3, .ref h4, .ref h5, .int 0, .int v2, .int v3, .int v4, .int v5, .ref h6, .int (nI (((((q + 1) + sb_dg (zn (g (46 + (3 * k))))) + 1) + sb_dg (zn (g ((46 + (3 * k)) + 2)))) + 1)), .ref h7, .ref h8, .ref h9, .int v7, .int v8, .int v9, .int v10, .int v11])), (h1, .inl (cy 0, 64, .inl (g))), (h6, .inl (cy 0, 120, .inl (upd o_13.2 ((((q + 1) + sb_dg (zn (g (46 + (3 * k))))) + 1) + sb_dg (zn (g ((46 + (3 * k)) + 2)))) 112)))]) (c_X9_write l hE D cy h0 h1 h2 h3 h4 h5 h6 h7 h8 h9 0 v2 v3 v4 v5 o_13.1 v7 v8 v9 v10 v11 o_13.2 112 ((((q + 1) + sb_dg (zn (g (46 + (3 * k))))) + 1) + sb_dg (zn (g ((46 + (3 * k)) + 2)))) (show zi o_13.1 ((((q + 1) + sb_dg (zn (g (46 + (3 * k))))) + 1) + sb_dg (zn (g ((46 + (3 * k)) + 2)))) from by rw [eo_13]; exact wn_n (nI (((q + 1) + sb_dg (zn (g (46 + (3 * k))))) + 1)) (upd o_11.2 ((q + 1) + sb_dg (zn (g (46 + (3 * k))))) 64) (zn (g ((46 + (3 * k)) + 2))) (((q + 1) + sb_dg (zn (g (46 + (3 * k))))) + 1) (by omega)) (by omega)) hE C zs_X9_190 ⟨Nat.le_of_ble_eq_true rfl, Nat.le_of_ble_eq_true rfl⟩ hP hD hS hA hE0 ⟨rfl, rfl, rfl, by decide, rfl, rfl, rfl⟩ 0 rfl rfl rfl rfl hl.1 (Nat.le_of_ble_eq_true rfl) rfl dX9_renderRecords_74 ⟨Nat.le_of_ble_eq_true rfl, Nat.le_of_ble_eq_true rfl⟩ (fun o_14 H locs eo_14 hP hD hS => ?_)
          refine lv_aload_n hX hB dX9_renderRecords_77 rfl (lv_at hl 1 rfl) ?_
          refine lv_aload_n hX hB dX9_renderRecords_78 rfl (lv_at hl 1 rfl) ?_
          refine fg_X9_7 C hP 0 rfl rfl dX9_renderRecords_79 ?_
          refine lv_bipush (v := 46) hX hB dX9_renderRecords_82 (by decide) ?_
          refine lv_iconst (v := 3) hX hB dX9_renderRecords_84 (by decide) ?_
          refine lv_iload_n hX hB dX9_renderRecords_85 rfl (lv_at hl 0 rfl) ?_
          refine z_imul (v := nI (3 * k)) C dX9_renderRecords_86 (zi_mul (zlit 3) (zi_i k)) ?_
          refine z_iadd (v := nI (46 + (3 * k))) C dX9_renderRecords_87 (zi_add (zlit 46) (zi_i (3 * k))) ?_
          refine lv_iconst (v := 1) hX hB dX9_renderRecords_88 (by decide) ?_
          refine z_iadd (v := nI ((46 + (3 * k)) + 1)) C dX9_renderRecords_89 (zi_add (zi_i (46 + (3 * k))) (zlit 1)) ?_
          refine z_iald C hP 1 rfl (k := (46 + (3 * k)) + 1) (zi_i ((46 + (3 * k)) + 1)) (by omega) (by decide) (v := g ((46 + (3 * k)) + 1)) rfl dX9_renderRecords_90 ?_
          refine z_callVv (isC := [0, 2]) (isR := [1]) (isO := [1, 0, 2]) (n_X9_writeNumber (nI (((((q + 1) + sb_dg (zn (g (46 + (3 * k))))) + 1) + sb_dg (zn (g ((46 + (3 * k)) + 2)))) + 1)) (upd o_13.2 ((((q + 1) + sb_dg (zn (g (46 + (3 * k))))) + 1) + sb_dg (zn (g ((46 + (3 * k)) + 2)))) 112) (zn (g ((46 + (3 * k)) + 1))) (((((q + 1) + sb_dg (zn (g (46 + (3 * k))))) + 1) + sb_dg (zn (g ((46 + (3 * k)) + 2)))) + 1)) (q_X9_writeNumber cy h0 h1 h2 h3 h4 h5 h6 h7 h8 h9 0 v2 v3 v4 v5 v7 v8 v9 v10 v11) (fun o_15 => [(h0, .inr (11, [.ref h1, .ref h2, .ref h3, .ref h4, .ref h5, .int 0, .int v2, .int v3, .int v4, .int v5, .ref h6, .int o_15.1, .ref h7, .ref h8, .ref h9, .int v7, .int v8, .int v9, .int v10, .int v11])), (h1, .inl (cy 0, 64, .inl (g))), (h6, .inl (cy 0, 120, .inl (o_15.2)))]) (c_X9_writeNumber l hE D cy h0 h1 h2 h3 h4 h5 h6 h7 h8 h9 0 v2 v3 v4 v5 (nI (((((q + 1) + sb_dg (zn (g (46 + (3 * k))))) + 1) + sb_dg (zn (g ((46 + (3 * k)) + 2)))) + 1)) v7 v8 v9 v10 v11 (upd o_13.2 ((((q + 1) + sb_dg (zn (g (46 + (3 * k))))) + 1) + sb_dg (zn (g ((46 + (3 * k)) + 2)))) 112) (g ((46 + (3 * k)) + 1)) (zn (g ((46 + (3 * k)) + 1))) (((((q + 1) + sb_dg (zn (g (46 + (3 * k))))) + 1) + sb_dg (zn (g ((46 + (3 * k)) + 2)))) + 1) (hrs k (by omega)).2.1.1 (by omega) (zi_i (((((q + 1) + sb_dg (zn (g (46 + (3 * k))))) + 1) + sb_dg (zn (g ((46 + (3 * k)) + 2)))) + 1)) (by omega)) hE C zs_X9_193 ⟨Nat.le_of_ble_eq_true rfl, Nat.le_of_ble_eq_true rfl⟩ hP hD hS hA hE0 ⟨rfl, rfl, rfl, by decide, rfl, rfl, rfl⟩ 0 rfl rfl rfl rfl hl.1 (Nat.le_of_ble_eq_true rfl) rfl dX9_renderRecords_91 ⟨Nat.le_of_ble_eq_true rfl, Nat.le_of_ble_eq_true rfl⟩ (fun o_15 H locs eo_15 hP hD hS => ?_)
          have hdg_o_15 := sb_dg_in (zn (g ((46 + (3 * k)) + 1)))
          refine lv_iinc (v := nI (k + 1)) (lv' := [(1, .int (nI (k + 1))), (0, .ref h0)]) hX hB dX9_renderRecords_94 hl (k := 0) rfl (zi_add (zi_i k) (zlit 1)) (by decide) rfl (fun ls hl => ?_)
          refine lv_goto (tgt := 12) hX hB dX9_renderRecords_97 (by decide) ?_
          rw [show o_15.1 = nI ((((((q + 1) + sb_dg (zn (g (46 + (3 * k))))) + 1) + sb_dg (zn (g ((46 + (3 * k)) + 2)))) + 1) + sb_dg (zn (g ((46 + (3 * k)) + 1)))) from (show zi o_15.1 ((((((q + 1) + sb_dg (zn (g (46 + (3 * k))))) + 1) + sb_dg (zn (g ((46 + (3 * k)) + 2)))) + 1) + sb_dg (zn (g ((46 + (3 * k)) + 1)))) from by rw [eo_15]; exact wn_n (nI (((((q + 1) + sb_dg (zn (g (46 + (3 * k))))) + 1) + sb_dg (zn (g ((46 + (3 * k)) + 2)))) + 1)) (upd o_13.2 ((((q + 1) + sb_dg (zn (g (46 + (3 * k))))) + 1) + sb_dg (zn (g ((46 + (3 * k)) + 2)))) 112) (zn (g ((46 + (3 * k)) + 1))) (((((q + 1) + sb_dg (zn (g (46 + (3 * k))))) + 1) + sb_dg (zn (g ((46 + (3 * k)) + 2)))) + 1) (by omega))] at hP hD
          exact ih_2 o_15.2 ((((((q + 1) + sb_dg (zn (g (46 + (3 * k))))) + 1) + sb_dg (zn (g ((46 + (3 * k)) + 2)))) + 1) + sb_dg (zn (g ((46 + (3 * k)) + 1)))) (k + 1) (by omega) (by omega)  (by omega) (Eq.trans (by simp only [n_X9_renderRecords_L1, if_neg c_3, if_neg c_4, ← eo_11, ← eo_13, ← eo_15]) hF_0) _ _ hP hD hS ls (lv_sub hl [0, 1] rfl)
  exact loop_0 6 go 0 0 (by omega) (by omega)  (by omega) (by simp only [n_X9_renderRecords]) _ _ hP hD hS ls hl

end M13
