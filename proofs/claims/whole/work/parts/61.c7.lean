def n_X1_describe_L3 (u5 : Int32) (u7 : Int32) : Nat → Nat → Nat → (Nat → Int32) → (Nat → Int32) × Nat
  | 0, _, q3, t_14 => (t_14, q3)
  | n_13 + 1, k3, q3, t_14 =>
    if u5 ≤ nI k3 then
      if u7 = 0 then
        (t_14, q3)
      else
        (upd t_14 q3 84, q3 + 1)
    else
      n_X1_describe_L3 u5 u7 n_13 (k3 + 1) (q3 + 1) (upd t_14 q3 33)
def n_X1_describe_L2 (u5 : Int32) (u7 : Int32) (fd : Nat → Int32) : Nat → Nat → Nat → (Nat → Int32) → (Nat → Int32) × Nat
  | 0, _, q2, t_10 => (t_10, q2)
  | n_9 + 1, k2, q2, t_10 =>
    if 5 ≤ nI k2 then
      n_X1_describe_L3 u5 u7 4 0 q2 t_10
    else
      if fd k2 = 0 then
        n_X1_describe_L2 u5 u7 fd n_9 (k2 + 1) (q2 + 1) (upd t_10 q2 124)
      else
        n_X1_describe_L2 u5 u7 fd n_9 (k2 + 1) (q2 + 1) (upd t_10 q2 95)
def n_X1_describe_L1 (u5 : Int32) (u7 : Int32) (fl : Nat → Int32) (fd : Nat → Int32) : Nat → Nat → Nat → (Nat → Int32) → (Nat → Int32) × Nat
  | 0, _, q, t_5 => (t_5, q)
  | n_4 + 1, k, q, t_5 =>
    if 4 ≤ nI k then
      n_X1_describe_L2 u5 u7 fd 6 0 (q + 1) (upd t_5 q 32)
    else
      if fl k = 0 then
        n_X1_describe_L1 u5 u7 fl fd n_4 (k + 1) (q + 1) (upd t_5 q 46)
      else
        n_X1_describe_L1 u5 u7 fl fd n_4 (k + 1) (q + 1) (upd t_5 q 42)
def n_X1_describe (u1 : Int32) (u5 : Int32) (u7 : Int32) (fl : Nat → Int32) (fd : Nat → Int32) : (Nat → Int32) × Nat :=
  n_X1_describe_L1 u5 u7 fl fd 5 0 ((1 + sb_dg (zn u1)) + 1) (upd (zdec (upd (fun _ => 0) 0 120) 1 (zn u1)) (1 + sb_dg (zn u1)) 32)
def q_X1_describe (cy : Nat → ClassId) (t3 : Nat) (t4 : Nat) (t5 : Nat) (t6 : Nat) (g0 : Nat) (u1 : Int32) (u2 : Int32) (u3 : Int32) (u4 : Int32) (u5 : Int32) (u6 : Int32) (u7 : Int32) (u8 : Int32) (fl : Nat → Int32) (fb : Nat → Int32) (fd : Nat → Int32) (o : (Nat → Int32) × Nat) (xo : zSBt) : va_W := [(t3, .inr (4, [.int u1, .ref t4, .ref t5, .ref t6, .int u2, .int u3, .int u4, .int u5, .int u6, .int u7, .int u8])), (t4, .inl (cy 1, 4, .inl (fl))), (t5, .inl (cy 0, 3, .inl (fb))), (t6, .inl (cy 1, 5, .inl (fd))), (g0, .inr (1, [.ref xo.1, .int 0, .int xo.2.2.2, .int (nI (o.2))])), (xo.1, .inl (cy 2, xo.2.1, .inl (xo.2.2.1)))]
set_option maxHeartbeats 4000000 in
set_option maxRecDepth 100000 in
theorem c_X1_describe (l : Launch) {E : zEn} (hE : zEok E) (D : zG) (cy : Nat → ClassId) (hOB : zOutB E) (t3 t4 t5 t6 g0 : Nat) (u1 : Int32) (u2 : Int32) (u3 : Int32) (u4 : Int32) (u5 : Int32) (u6 : Int32) (u7 : Int32) (u8 : Int32) (fl : Nat → Int32) (fb : Nat → Int32) (fd : Nat → Int32) (x0 : zSBt) (hzu1 : zle u1 6) (hzu5 : zle u5 3) (hx0 : zSB (fun _ => 0) 0 x0) (sz : Nat) : Met l yX1_describe (zws yX1_describe cX1_describe 6 none) { frames := 6, cells := 20, slots := 6000, locals := 241 } (zPre E D cy [.ref t3, .ref g0] [(t3, .inr (4, [.int u1, .ref t4, .ref t5, .ref t6, .int u2, .int u3, .int u4, .int u5, .int u6, .int u7, .int u8])), (t4, .inl (cy 1, 4, .inl (fl))), (t5, .inl (cy 0, 3, .inl (fb))), (t6, .inl (cy 1, 5, .inl (fd))), (g0, .inr (1, [.ref x0.1, .int 0, .int x0.2.2.2, .int (nI 0)])), (x0.1, .inl (cy 2, x0.2.1, .inl (x0.2.2.1)))] sz) (zQvr D (zSB (n_X1_describe u1 u5 u7 fl fd).1 (n_X1_describe u1 u5 u7 fl fd).2) ((q_X1_describe cy t3 t4 t5 t6 g0 u1 u2 u3 u4 u5 u6 u7 u8 fl fb fd) (n_X1_describe u1 u5 u7 fl fd)) (va_A [(t3, .inr (4, [.int u1, .ref t4, .ref t5, .ref t6, .int u2, .int u3, .int u4, .int u5, .int u6, .int u7, .int u8])), (t4, .inl (cy 1, 4, .inl (fl))), (t5, .inl (cy 0, 3, .inl (fb))), (t6, .inl (cy 1, 5, .inl (fd))), (g0, .inr (1, [.ref x0.1, .int 0, .int x0.2.2.2, .int (nI 0)])), (x0.1, .inl (cy 2, x0.2.1, .inl (x0.2.2.1)))] sz)) 20 6000 (va_A [(t3, .inr (4, [.int u1, .ref t4, .ref t5, .ref t6, .int u2, .int u3, .int u4, .int u5, .int u6, .int u7, .int u8])), (t4, .inl (cy 1, 4, .inl (fl))), (t5, .inl (cy 0, 3, .inl (fb))), (t6, .inl (cy 1, 5, .inl (fd))), (g0, .inr (1, [.ref x0.1, .int 0, .int x0.2.2.2, .int (nI 0)])), (x0.1, .inl (cy 2, x0.2.1, .inl (x0.2.2.1)))] sz) := by
  refine z_of (Qc := fun A => zQvr D (zSB (n_X1_describe u1 u5 u7 fl fd).1 (n_X1_describe u1 u5 u7 fl fd).2) ((q_X1_describe cy t3 t4 t5 t6 g0 u1 u2 u3 u4 u5 u6 u7 u8 fl fb fd) (n_X1_describe u1 u5 u7 fl fd)) A) (by decide +kernel) (Nat.le_of_ble_eq_true rfl) rfl ?_
  intro pG eN sT mI below meth cO A ls C hRT hnm hA hP hD hS hE0 hl
  have hX := C.x
  have hB := C.b
  have hzu1_ := hzu1.2
  have hzu5_ := hzu5.2
  refine lv_aload_n hX hB dX1_describe_0 rfl (lv_at hl 1 rfl) ?_
  refine lv_bipush (v := 120) hX hB dX1_describe_1 (by decide) ?_
  refine z_appC (wr := [(t3, .inr (4, [.int u1, .ref t4, .ref t5, .ref t6, .int u2, .int u3, .int u4, .int u5, .int u6, .int u7, .int u8])), (t4, .inl (cy 1, 4, .inl (fl))), (t5, .inl (cy 0, 3, .inl (fb))), (t6, .inl (cy 1, 5, .inl (fd)))]) hE hOB C zs_X1_78 ⟨Nat.le_of_ble_eq_true rfl, Nat.le_of_ble_eq_true rfl⟩ (zle_of (zlit 120) (by decide) (by decide)) hx0 (by omega) hP hD hS hA hE0 hl.1 (Nat.le_of_ble_eq_true rfl) rfl dX1_describe_3 ⟨Nat.le_of_ble_eq_true rfl, Nat.le_of_ble_eq_true rfl⟩ (fun x_1 H locs hx_1 hP hD hS => ?_)
  refine lv_pop hX hB dX1_describe_6 rfl ?_
  refine lv_aload_n hX hB dX1_describe_7 rfl (lv_at hl 1 rfl) ?_
  refine lv_aload_n hX hB dX1_describe_8 rfl (lv_at hl 0 rfl) ?_
  refine fg_X1_9 C hP 0 rfl rfl dX1_describe_9 ?_
  have hdg_x_2 := sb_dg_in (zn u1)
  refine z_appI (wr := [(t3, .inr (4, [.int u1, .ref t4, .ref t5, .ref t6, .int u2, .int u3, .int u4, .int u5, .int u6, .int u7, .int u8])), (t4, .inl (cy 1, 4, .inl (fl))), (t5, .inl (cy 0, 3, .inl (fb))), (t6, .inl (cy 1, 5, .inl (fd)))]) (t' := zdec (upd (fun _ => 0) 0 120) 1 (zn u1)) hE hOB C zs_X1_84 ⟨Nat.le_of_ble_eq_true rfl, Nat.le_of_ble_eq_true rfl⟩ (w := (zn u1)) (by omega) hx_1 (by omega) (fun j hj => zdec_lo hj) (fun i hi => zdec_hi hi) hP hD hS hA hE0 hl.1 (Nat.le_of_ble_eq_true rfl) hzu1.1 rfl dX1_describe_12 ⟨Nat.le_of_ble_eq_true rfl, Nat.le_of_ble_eq_true rfl⟩ (fun x_2 H locs hx_2 hP hD hS => ?_)
  refine lv_pop hX hB dX1_describe_15 rfl ?_
  refine lv_aload_n hX hB dX1_describe_16 rfl (lv_at hl 1 rfl) ?_
  refine lv_bipush (v := 32) hX hB dX1_describe_17 (by decide) ?_
  refine z_appC (wr := [(t3, .inr (4, [.int u1, .ref t4, .ref t5, .ref t6, .int u2, .int u3, .int u4, .int u5, .int u6, .int u7, .int u8])), (t4, .inl (cy 1, 4, .inl (fl))), (t5, .inl (cy 0, 3, .inl (fb))), (t6, .inl (cy 1, 5, .inl (fd)))]) hE hOB C zs_X1_78 ⟨Nat.le_of_ble_eq_true rfl, Nat.le_of_ble_eq_true rfl⟩ (zle_of (zlit 32) (by decide) (by decide)) hx_2 (by omega) hP hD hS hA hE0 hl.1 (Nat.le_of_ble_eq_true rfl) rfl dX1_describe_19 ⟨Nat.le_of_ble_eq_true rfl, Nat.le_of_ble_eq_true rfl⟩ (fun x_3 H locs hx_3 hP hD hS => ?_)
  refine lv_pop hX hB dX1_describe_22 rfl ?_
  refine lv_aload_n hX hB dX1_describe_23 rfl (lv_at hl 0 rfl) ?_
  refine fg_X1_15 C hP 0 rfl rfl dX1_describe_24 ?_
  refine lv_astore_n (lv' := [(2, .ref t4), (0, .ref t3), (1, .ref g0)]) hX hB dX1_describe_27 rfl hl (by decide) rfl (fun ls hl => ?_)
  refine lv_aload_n hX hB dX1_describe_28 rfl (lv_at hl 0 rfl) ?_
  refine z_alen C hP 1 1 rfl rfl (v := 4) (show Int32.ofNat 4 = 4 from by decide) dX1_describe_29 ?_
  refine lv_istore_n (lv' := [(3, .int 4), (2, .ref t4), (0, .ref t3), (1, .ref g0)]) hX hB dX1_describe_30 rfl hl (by decide) rfl (fun ls hl => ?_)
  refine lv_iconst (v := 0) hX hB dX1_describe_31 (by decide) ?_
  refine lv_istore (lv' := [(4, .int 0), (3, .int 4), (2, .ref t4), (0, .ref t3), (1, .ref g0)]) hX hB dX1_describe_32 hl (by decide) rfl (fun ls hl => ?_)
  have loop_0 : ∀ (n_4 : Nat) (k : Nat) (q : Nat) (t_5 : Nat → Int32) (xl_0 : zSBt), zSB t_5 q xl_0 → (k ≤ 4) → (q ≤ 20 + k) → 4 - k < n_4 → n_X1_describe_L1 u5 u7 fl fd n_4 k q t_5 = n_X1_describe u1 u5 u7 fl fd → ∀ (H : Heap) (locs : List Loc), va_P D vwCl [(t3, .inr (4, [.int u1, .ref t4, .ref t5, .ref t6, .int u2, .int u3, .int u4, .int u5, .int u6, .int u7, .int u8])), (t4, .inl (cy 1, 4, .inl (fl))), (t5, .inl (cy 0, 3, .inl (fb))), (t6, .inl (cy 1, 5, .inl (fd))), (g0, .inr (1, [.ref xl_0.1, .int 0, .int xl_0.2.2.2, .int (nI q)])), (xl_0.1, .inl (cy 2, xl_0.2.1, .inl (xl_0.2.2.1)))] H → va_D A [(t3, .inr (4, [.int u1, .ref t4, .ref t5, .ref t6, .int u2, .int u3, .int u4, .int u5, .int u6, .int u7, .int u8])), (t4, .inl (cy 1, 4, .inl (fl))), (t5, .inl (cy 0, 3, .inl (fb))), (t6, .inl (cy 1, 5, .inl (fd))), (g0, .inr (1, [.ref xl_0.1, .int 0, .int xl_0.2.2.2, .int (nI q)])), (xl_0.1, .inl (cy 2, xl_0.2.1, .inl (xl_0.2.2.1)))] → va_S A sT.heap H locs → ∀ (ls : Array Slot), lv_has ls 6 [(4, .int (nI k)), (3, .int 4), (2, .ref t4), (0, .ref t3), (1, .ref g0)] → W pG l eN { frames := 6, cells := 20, slots := 6000, locals := 241 } sT mI ([.ref t3, .ref g0] : List Value).toArray below meth cO H locs (3 + k) (300 * (3 + k)) (MQ below (zQvr D (zSB (n_X1_describe u1 u5 u7 fl fd).1 (n_X1_describe u1 u5 u7 fl fd).2) ((q_X1_describe cy t3 t4 t5 t6 g0 u1 u2 u3 u4 u5 u6 u7 u8 fl fb fd) (n_X1_describe u1 u5 u7 fl fd)) A) ([.ref t3, .ref g0] : List Value).toArray sT 20 6000 A) (F0 mI 34 ls []) := by
    intro n_4
    induction n_4 with
    | zero =>
      intro k q t_5 xl_0 hxl_0 hb_0_0 hb_0_1 hm_0
      exact absurd hm_0 (by omega)
    | succ n_4 ih_6 =>
      intro k q t_5 xl_0 hxl_0 hb_0_0 hb_0_1 hm_0 hF_0 H locs hP hD hS ls hl
      refine lv_iload hX hB dX1_describe_34 (lv_at hl 0 rfl) ?_
      refine lv_iload_n hX hB dX1_describe_36 rfl (lv_at hl 1 rfl) ?_
      refine lv_icmp_ge (tgt := 69) hX hB dX1_describe_37 (by decide) (fun c_7 => ?_) (fun c_7 => ?_)
      · have c_7n : 4 ≤ k := (zi_le_iff (zlit 4) (zi_i k) (by decide) (by omega)).mp c_7
        refine lv_aload_n hX hB dX1_describe_69 rfl (lv_at hl 4 rfl) ?_
        refine lv_bipush (v := 32) hX hB dX1_describe_70 (by decide) ?_
        refine z_appC (wr := [(t3, .inr (4, [.int u1, .ref t4, .ref t5, .ref t6, .int u2, .int u3, .int u4, .int u5, .int u6, .int u7, .int u8])), (t4, .inl (cy 1, 4, .inl (fl))), (t5, .inl (cy 0, 3, .inl (fb))), (t6, .inl (cy 1, 5, .inl (fd)))]) hE hOB C zs_X1_78 ⟨Nat.le_of_ble_eq_true rfl, Nat.le_of_ble_eq_true rfl⟩ (zle_of (zlit 32) (by decide) (by decide)) hxl_0 (by omega) hP hD hS hA hE0 hl.1 (Nat.le_of_ble_eq_true rfl) rfl dX1_describe_72 ⟨(show _ ≤ 20 from by omega), (show _ ≤ 6000 from by omega)⟩ (fun x_8 H locs hx_8 hP hD hS => ?_)
        refine lv_pop hX hB dX1_describe_75 rfl ?_
        refine lv_aload_n hX hB dX1_describe_76 rfl (lv_at hl 3 rfl) ?_
        refine fg_X1_23 C hP 0 rfl rfl dX1_describe_77 ?_
        refine lv_astore_n (lv' := [(2, .ref t6), (4, .int (nI k)), (3, .int 4), (0, .ref t3), (1, .ref g0)]) hX hB dX1_describe_80 rfl hl (by decide) rfl (fun ls hl => ?_)
        refine lv_aload_n hX hB dX1_describe_81 rfl (lv_at hl 0 rfl) ?_
        refine z_alen C hP 3 1 rfl rfl (v := 5) (show Int32.ofNat 5 = 5 from by decide) dX1_describe_82 ?_
        refine lv_istore_n (lv' := [(3, .int 5), (2, .ref t6), (4, .int (nI k)), (0, .ref t3), (1, .ref g0)]) hX hB dX1_describe_83 rfl hl (by decide) rfl (fun ls hl => ?_)
        refine lv_iconst (v := 0) hX hB dX1_describe_84 (by decide) ?_
        refine lv_istore (lv' := [(4, .int 0), (3, .int 5), (2, .ref t6), (0, .ref t3), (1, .ref g0)]) hX hB dX1_describe_85 hl (by decide) rfl (fun ls hl => ?_)
        have loop_1 : ∀ (n_9 : Nat) (k2 : Nat) (q2 : Nat) (t_10 : Nat → Int32) (xl_1 : zSBt), zSB t_10 q2 xl_1 → (k2 ≤ 5) → (q2 ≤ 30 + k2) → 5 - k2 < n_9 → n_X1_describe_L2 u5 u7 fd n_9 k2 q2 t_10 = n_X1_describe u1 u5 u7 fl fd → ∀ (H : Heap) (locs : List Loc), va_P D vwCl [(t3, .inr (4, [.int u1, .ref t4, .ref t5, .ref t6, .int u2, .int u3, .int u4, .int u5, .int u6, .int u7, .int u8])), (t4, .inl (cy 1, 4, .inl (fl))), (t5, .inl (cy 0, 3, .inl (fb))), (t6, .inl (cy 1, 5, .inl (fd))), (g0, .inr (1, [.ref xl_1.1, .int 0, .int xl_1.2.2.2, .int (nI q2)])), (xl_1.1, .inl (cy 2, xl_1.2.1, .inl (xl_1.2.2.1)))] H → va_D A [(t3, .inr (4, [.int u1, .ref t4, .ref t5, .ref t6, .int u2, .int u3, .int u4, .int u5, .int u6, .int u7, .int u8])), (t4, .inl (cy 1, 4, .inl (fl))), (t5, .inl (cy 0, 3, .inl (fb))), (t6, .inl (cy 1, 5, .inl (fd))), (g0, .inr (1, [.ref xl_1.1, .int 0, .int xl_1.2.2.2, .int (nI q2)])), (xl_1.1, .inl (cy 2, xl_1.2.1, .inl (xl_1.2.2.1)))] → va_S A sT.heap H locs → ∀ (ls : Array Slot), lv_has ls 6 [(4, .int (nI k2)), (3, .int 5), (2, .ref t6), (0, .ref t3), (1, .ref g0)] → W pG l eN { frames := 6, cells := 20, slots := 6000, locals := 241 } sT mI ([.ref t3, .ref g0] : List Value).toArray below meth cO H locs (8 + k2) (300 * (8 + k2)) (MQ below (zQvr D (zSB (n_X1_describe u1 u5 u7 fl fd).1 (n_X1_describe u1 u5 u7 fl fd).2) ((q_X1_describe cy t3 t4 t5 t6 g0 u1 u2 u3 u4 u5 u6 u7 u8 fl fb fd) (n_X1_describe u1 u5 u7 fl fd)) A) ([.ref t3, .ref g0] : List Value).toArray sT 20 6000 A) (F0 mI 87 ls []) := by
          intro n_9
          induction n_9 with
          | zero =>
            intro k2 q2 t_10 xl_1 hxl_1 hb_1_0 hb_1_1 hm_1
            exact absurd hm_1 (by omega)
          | succ n_9 ih_11 =>
            intro k2 q2 t_10 xl_1 hxl_1 hb_1_0 hb_1_1 hm_1 hF_1 H locs hP hD hS ls hl
            refine lv_iload hX hB dX1_describe_87 (lv_at hl 0 rfl) ?_
            refine lv_iload_n hX hB dX1_describe_89 rfl (lv_at hl 1 rfl) ?_
            refine lv_icmp_ge (tgt := 122) hX hB dX1_describe_90 (by decide) (fun c_12 => ?_) (fun c_12 => ?_)
            · have c_12n : 5 ≤ k2 := (zi_le_iff (zlit 5) (zi_i k2) (by decide) (by omega)).mp c_12
              refine lv_iconst (v := 0) hX hB dX1_describe_122 (by decide) ?_
              refine lv_istore_n (lv' := [(2, .int 0), (4, .int (nI k2)), (3, .int 5), (0, .ref t3), (1, .ref g0)]) hX hB dX1_describe_123 rfl hl (by decide) rfl (fun ls hl => ?_)
              have loop_2 : ∀ (n_13 : Nat) (k3 : Nat) (q3 : Nat) (t_14 : Nat → Int32) (xl_2 : zSBt), zSB t_14 q3 xl_2 → (k3 ≤ zn u5) → (q3 ≤ 40 + k3) → zn u5 - k3 < n_13 → n_X1_describe_L3 u5 u7 n_13 k3 q3 t_14 = n_X1_describe u1 u5 u7 fl fd → ∀ (H : Heap) (locs : List Loc), va_P D vwCl [(t3, .inr (4, [.int u1, .ref t4, .ref t5, .ref t6, .int u2, .int u3, .int u4, .int u5, .int u6, .int u7, .int u8])), (t4, .inl (cy 1, 4, .inl (fl))), (t5, .inl (cy 0, 3, .inl (fb))), (t6, .inl (cy 1, 5, .inl (fd))), (g0, .inr (1, [.ref xl_2.1, .int 0, .int xl_2.2.2.2, .int (nI q3)])), (xl_2.1, .inl (cy 2, xl_2.2.1, .inl (xl_2.2.2.1)))] H → va_D A [(t3, .inr (4, [.int u1, .ref t4, .ref t5, .ref t6, .int u2, .int u3, .int u4, .int u5, .int u6, .int u7, .int u8])), (t4, .inl (cy 1, 4, .inl (fl))), (t5, .inl (cy 0, 3, .inl (fb))), (t6, .inl (cy 1, 5, .inl (fd))), (g0, .inr (1, [.ref xl_2.1, .int 0, .int xl_2.2.2.2, .int (nI q3)])), (xl_2.1, .inl (cy 2, xl_2.2.1, .inl (xl_2.2.2.1)))] → va_S A sT.heap H locs → ∀ (ls : Array Slot), lv_has ls 6 [(2, .int (nI k3)), (4, .int (nI k2)), (3, .int 5), (0, .ref t3), (1, .ref g0)] → W pG l eN { frames := 6, cells := 20, slots := 6000, locals := 241 } sT mI ([.ref t3, .ref g0] : List Value).toArray below meth cO H locs (13 + k3) (300 * (13 + k3)) (MQ below (zQvr D (zSB (n_X1_describe u1 u5 u7 fl fd).1 (n_X1_describe u1 u5 u7 fl fd).2) ((q_X1_describe cy t3 t4 t5 t6 g0 u1 u2 u3 u4 u5 u6 u7 u8 fl fb fd) (n_X1_describe u1 u5 u7 fl fd)) A) ([.ref t3, .ref g0] : List Value).toArray sT 20 6000 A) (F0 mI 124 ls []) := by
                intro n_13
                induction n_13 with
                | zero =>
                  intro k3 q3 t_14 xl_2 hxl_2 hb_2_0 hb_2_1 hm_2
                  exact absurd hm_2 (by omega)
                | succ n_13 ih_15 =>
                  intro k3 q3 t_14 xl_2 hxl_2 hb_2_0 hb_2_1 hm_2 hF_2 H locs hP hD hS ls hl
                  refine lv_iload_n hX hB dX1_describe_124 rfl (lv_at hl 0 rfl) ?_
                  refine lv_aload_n hX hB dX1_describe_125 rfl (lv_at hl 3 rfl) ?_
                  refine fg_X1_39 C hP 0 rfl rfl dX1_describe_126 ?_
                  refine lv_icmp_ge (tgt := 145) hX hB dX1_describe_129 (by decide) (fun c_16 => ?_) (fun c_16 => ?_)
                  · have c_16n : zn u5 ≤ k3 := (zi_le_iff hzu5.1 (zi_i k3) (by omega) (by omega)).mp c_16
                    refine lv_aload_n hX hB dX1_describe_145 rfl (lv_at hl 3 rfl) ?_
                    refine fg_X1_45 C hP 0 rfl rfl dX1_describe_146 ?_
                    refine lv_if_eq (tgt := 159) hX hB dX1_describe_149 (by decide) (fun c_17 => ?_) (fun c_17 => ?_)
                    · exact z_vretsb (t_14, q3) (fun (o : (Nat → Int32) × Nat) => o.1) (fun (o : (Nat → Int32) × Nat) => o.2) (w' := q_X1_describe cy t3 t4 t5 t6 g0 u1 u2 u3 u4 u5 u6 u7 u8 fl fb fd) (hF_2.symm.trans (by simp only [n_X1_describe_L3, if_pos c_16, if_pos c_17])) xl_2 hxl_2 C hRT hP hD hS (by omega) (by omega) rfl dX1_describe_159
                    · refine lv_aload_n hX hB dX1_describe_152 rfl (lv_at hl 4 rfl) ?_
                      refine lv_bipush (v := 84) hX hB dX1_describe_153 (by decide) ?_
                      refine z_appC (wr := [(t3, .inr (4, [.int u1, .ref t4, .ref t5, .ref t6, .int u2, .int u3, .int u4, .int u5, .int u6, .int u7, .int u8])), (t4, .inl (cy 1, 4, .inl (fl))), (t5, .inl (cy 0, 3, .inl (fb))), (t6, .inl (cy 1, 5, .inl (fd)))]) hE hOB C zs_X1_78 ⟨Nat.le_of_ble_eq_true rfl, Nat.le_of_ble_eq_true rfl⟩ (zle_of (zlit 84) (by decide) (by decide)) hxl_2 (by omega) hP hD hS hA hE0 hl.1 (Nat.le_of_ble_eq_true rfl) rfl dX1_describe_155 ⟨(show _ ≤ 20 from by omega), (show _ ≤ 6000 from by omega)⟩ (fun x_18 H locs hx_18 hP hD hS => ?_)
                      refine lv_pop hX hB dX1_describe_158 rfl ?_
                      exact z_vretsb (upd t_14 q3 84, q3 + 1) (fun (o : (Nat → Int32) × Nat) => o.1) (fun (o : (Nat → Int32) × Nat) => o.2) (w' := q_X1_describe cy t3 t4 t5 t6 g0 u1 u2 u3 u4 u5 u6 u7 u8 fl fb fd) (hF_2.symm.trans (by simp only [n_X1_describe_L3, if_pos c_16, if_neg c_17])) x_18 hx_18 C hRT hP hD hS (by omega) (by omega) rfl dX1_describe_159
                  · have c_16n : ¬ (zn u5 ≤ k3) := fun z => c_16 ((zi_le_iff hzu5.1 (zi_i k3) (by omega) (by omega)).mpr z)
                    refine lv_aload_n hX hB dX1_describe_132 rfl (lv_at hl 4 rfl) ?_
                    refine lv_bipush (v := 33) hX hB dX1_describe_133 (by decide) ?_
                    refine z_appC (wr := [(t3, .inr (4, [.int u1, .ref t4, .ref t5, .ref t6, .int u2, .int u3, .int u4, .int u5, .int u6, .int u7, .int u8])), (t4, .inl (cy 1, 4, .inl (fl))), (t5, .inl (cy 0, 3, .inl (fb))), (t6, .inl (cy 1, 5, .inl (fd)))]) hE hOB C zs_X1_78 ⟨Nat.le_of_ble_eq_true rfl, Nat.le_of_ble_eq_true rfl⟩ (zle_of (zlit 33) (by decide) (by decide)) hxl_2 (by omega) hP hD hS hA hE0 hl.1 (Nat.le_of_ble_eq_true rfl) rfl dX1_describe_135 ⟨(show _ ≤ 20 from by omega), (show _ ≤ 6000 from by omega)⟩ (fun x_19 H locs hx_19 hP hD hS => ?_)
                    refine lv_pop hX hB dX1_describe_138 rfl ?_
                    refine lv_iinc (v := nI (k3 + 1)) (lv' := [(2, .int (nI (k3 + 1))), (4, .int (nI k2)), (3, .int 5), (0, .ref t3), (1, .ref g0)]) hX hB dX1_describe_139 hl (k := 0) rfl (zi_add (zi_i k3) (zlit 1)) (by decide) rfl (fun ls hl => ?_)
                    refine lv_goto (tgt := 124) hX hB dX1_describe_142 (by decide) ?_
                    refine W.widen (show _ ≤ 13 + (k3 + 1) from by omega) (show _ ≤ 300 * (13 + (k3 + 1)) from by omega) ?_
                    exact ih_15 (k3 + 1) (q3 + 1) (upd t_14 q3 33) x_19 hx_19 (by omega) (by omega)  (by omega) (Eq.trans (by simp only [n_X1_describe_L3, if_neg c_16]) hF_2) _ _ hP hD hS ls (lv_sub hl [0, 1, 2, 3, 4] rfl)
              refine W.widen (show _ ≤ 13 + 0 from by omega) (show _ ≤ 300 * (13 + 0) from by omega) ?_
              exact loop_2 4 0 q2 t_10 xl_1 hxl_1 (by omega) (by omega)  (by omega) (Eq.trans (by simp only [n_X1_describe_L2, if_pos c_12]) hF_1) _ _ hP hD hS ls hl
            · have c_12n : ¬ (5 ≤ k2) := fun z => c_12 ((zi_le_iff (zlit 5) (zi_i k2) (by decide) (by omega)).mpr z)
              refine lv_aload_n hX hB dX1_describe_93 rfl (lv_at hl 2 rfl) ?_
              refine lv_iload hX hB dX1_describe_94 (lv_at hl 0 rfl) ?_
              refine z_zald C hP 3 rfl (k := k2) (zi_i k2) (by omega) (by decide) (v := fd k2) rfl dX1_describe_96 ?_
              refine lv_istore (lv' := [(5, .int (fd k2)), (4, .int (nI k2)), (3, .int 5), (2, .ref t6), (0, .ref t3), (1, .ref g0)]) hX hB dX1_describe_97 hl (by decide) rfl (fun ls hl => ?_)
              refine lv_aload_n hX hB dX1_describe_99 rfl (lv_at hl 5 rfl) ?_
              refine lv_iload hX hB dX1_describe_100 (lv_at hl 0 rfl) ?_
              refine lv_if_eq (tgt := 110) hX hB dX1_describe_102 (by decide) (fun c_20 => ?_) (fun c_20 => ?_)
              · refine lv_bipush (v := 124) hX hB dX1_describe_110 (by decide) ?_
                refine z_appC (wr := [(t3, .inr (4, [.int u1, .ref t4, .ref t5, .ref t6, .int u2, .int u3, .int u4, .int u5, .int u6, .int u7, .int u8])), (t4, .inl (cy 1, 4, .inl (fl))), (t5, .inl (cy 0, 3, .inl (fb))), (t6, .inl (cy 1, 5, .inl (fd)))]) hE hOB C zs_X1_78 ⟨Nat.le_of_ble_eq_true rfl, Nat.le_of_ble_eq_true rfl⟩ (zle_of (zlit 124) (by decide) (by decide)) hxl_1 (by omega) hP hD hS hA hE0 hl.1 (Nat.le_of_ble_eq_true rfl) rfl dX1_describe_112 ⟨(show _ ≤ 20 from by omega), (show _ ≤ 6000 from by omega)⟩ (fun x_21 H locs hx_21 hP hD hS => ?_)
                refine lv_pop hX hB dX1_describe_115 rfl ?_
                refine lv_iinc (v := nI (k2 + 1)) (lv' := [(4, .int (nI (k2 + 1))), (5, .int (fd k2)), (3, .int 5), (2, .ref t6), (0, .ref t3), (1, .ref g0)]) hX hB dX1_describe_116 hl (k := 1) rfl (zi_add (zi_i k2) (zlit 1)) (by decide) rfl (fun ls hl => ?_)
                refine lv_goto (tgt := 87) hX hB dX1_describe_119 (by decide) ?_
                refine W.widen (show _ ≤ 8 + (k2 + 1) from by omega) (show _ ≤ 300 * (8 + (k2 + 1)) from by omega) ?_
                exact ih_11 (k2 + 1) (q2 + 1) (upd t_10 q2 124) x_21 hx_21 (by omega) (by omega)  (by omega) (Eq.trans (by simp only [n_X1_describe_L2, if_neg c_12, if_pos c_20]) hF_1) _ _ hP hD hS ls (lv_sub hl [0, 2, 3, 4, 5] rfl)
              · refine lv_bipush (v := 95) hX hB dX1_describe_105 (by decide) ?_
                refine lv_goto (tgt := 112) hX hB dX1_describe_107 (by decide) ?_
                refine z_appC (wr := [(t3, .inr (4, [.int u1, .ref t4, .ref t5, .ref t6, .int u2, .int u3, .int u4, .int u5, .int u6, .int u7, .int u8])), (t4, .inl (cy 1, 4, .inl (fl))), (t5, .inl (cy 0, 3, .inl (fb))), (t6, .inl (cy 1, 5, .inl (fd)))]) hE hOB C zs_X1_78 ⟨Nat.le_of_ble_eq_true rfl, Nat.le_of_ble_eq_true rfl⟩ (zle_of (zlit 95) (by decide) (by decide)) hxl_1 (by omega) hP hD hS hA hE0 hl.1 (Nat.le_of_ble_eq_true rfl) rfl dX1_describe_112 ⟨(show _ ≤ 20 from by omega), (show _ ≤ 6000 from by omega)⟩ (fun x_22 H locs hx_22 hP hD hS => ?_)
                refine lv_pop hX hB dX1_describe_115 rfl ?_
                refine lv_iinc (v := nI (k2 + 1)) (lv' := [(4, .int (nI (k2 + 1))), (5, .int (fd k2)), (3, .int 5), (2, .ref t6), (0, .ref t3), (1, .ref g0)]) hX hB dX1_describe_116 hl (k := 1) rfl (zi_add (zi_i k2) (zlit 1)) (by decide) rfl (fun ls hl => ?_)
                refine lv_goto (tgt := 87) hX hB dX1_describe_119 (by decide) ?_
                refine W.widen (show _ ≤ 8 + (k2 + 1) from by omega) (show _ ≤ 300 * (8 + (k2 + 1)) from by omega) ?_
                exact ih_11 (k2 + 1) (q2 + 1) (upd t_10 q2 95) x_22 hx_22 (by omega) (by omega)  (by omega) (Eq.trans (by simp only [n_X1_describe_L2, if_neg c_12, if_neg c_20]) hF_1) _ _ hP hD hS ls (lv_sub hl [0, 2, 3, 4, 5] rfl)
        refine W.widen (show _ ≤ 8 + 0 from by omega) (show _ ≤ 300 * (8 + 0) from by omega) ?_
        exact loop_1 6 0 (q + 1) (upd t_5 q 32) x_8 hx_8 (by omega) (by omega)  (by omega) (Eq.trans (by simp only [n_X1_describe_L1, if_pos c_7]) hF_0) _ _ hP hD hS ls hl
      · have c_7n : ¬ (4 ≤ k) := fun z => c_7 ((zi_le_iff (zlit 4) (zi_i k) (by decide) (by omega)).mpr z)
        refine lv_aload_n hX hB dX1_describe_40 rfl (lv_at hl 2 rfl) ?_
        refine lv_iload hX hB dX1_describe_41 (lv_at hl 0 rfl) ?_
        refine z_zald C hP 1 rfl (k := k) (zi_i k) (by omega) (by decide) (v := fl k) rfl dX1_describe_43 ?_
        refine lv_istore (lv' := [(5, .int (fl k)), (4, .int (nI k)), (3, .int 4), (2, .ref t4), (0, .ref t3), (1, .ref g0)]) hX hB dX1_describe_44 hl (by decide) rfl (fun ls hl => ?_)
        refine lv_aload_n hX hB dX1_describe_46 rfl (lv_at hl 5 rfl) ?_
        refine lv_iload hX hB dX1_describe_47 (lv_at hl 0 rfl) ?_
        refine lv_if_eq (tgt := 57) hX hB dX1_describe_49 (by decide) (fun c_23 => ?_) (fun c_23 => ?_)
        · refine lv_bipush (v := 46) hX hB dX1_describe_57 (by decide) ?_
          refine z_appC (wr := [(t3, .inr (4, [.int u1, .ref t4, .ref t5, .ref t6, .int u2, .int u3, .int u4, .int u5, .int u6, .int u7, .int u8])), (t4, .inl (cy 1, 4, .inl (fl))), (t5, .inl (cy 0, 3, .inl (fb))), (t6, .inl (cy 1, 5, .inl (fd)))]) hE hOB C zs_X1_78 ⟨Nat.le_of_ble_eq_true rfl, Nat.le_of_ble_eq_true rfl⟩ (zle_of (zlit 46) (by decide) (by decide)) hxl_0 (by omega) hP hD hS hA hE0 hl.1 (Nat.le_of_ble_eq_true rfl) rfl dX1_describe_59 ⟨(show _ ≤ 20 from by omega), (show _ ≤ 6000 from by omega)⟩ (fun x_24 H locs hx_24 hP hD hS => ?_)
          refine lv_pop hX hB dX1_describe_62 rfl ?_
          refine lv_iinc (v := nI (k + 1)) (lv' := [(4, .int (nI (k + 1))), (5, .int (fl k)), (3, .int 4), (2, .ref t4), (0, .ref t3), (1, .ref g0)]) hX hB dX1_describe_63 hl (k := 1) rfl (zi_add (zi_i k) (zlit 1)) (by decide) rfl (fun ls hl => ?_)
          refine lv_goto (tgt := 34) hX hB dX1_describe_66 (by decide) ?_
          refine W.widen (show _ ≤ 3 + (k + 1) from by omega) (show _ ≤ 300 * (3 + (k + 1)) from by omega) ?_
          exact ih_6 (k + 1) (q + 1) (upd t_5 q 46) x_24 hx_24 (by omega) (by omega)  (by omega) (Eq.trans (by simp only [n_X1_describe_L1, if_neg c_7, if_pos c_23]) hF_0) _ _ hP hD hS ls (lv_sub hl [0, 2, 3, 4, 5] rfl)
        · refine lv_bipush (v := 42) hX hB dX1_describe_52 (by decide) ?_
          refine lv_goto (tgt := 59) hX hB dX1_describe_54 (by decide) ?_
          refine z_appC (wr := [(t3, .inr (4, [.int u1, .ref t4, .ref t5, .ref t6, .int u2, .int u3, .int u4, .int u5, .int u6, .int u7, .int u8])), (t4, .inl (cy 1, 4, .inl (fl))), (t5, .inl (cy 0, 3, .inl (fb))), (t6, .inl (cy 1, 5, .inl (fd)))]) hE hOB C zs_X1_78 ⟨Nat.le_of_ble_eq_true rfl, Nat.le_of_ble_eq_true rfl⟩ (zle_of (zlit 42) (by decide) (by decide)) hxl_0 (by omega) hP hD hS hA hE0 hl.1 (Nat.le_of_ble_eq_true rfl) rfl dX1_describe_59 ⟨(show _ ≤ 20 from by omega), (show _ ≤ 6000 from by omega)⟩ (fun x_25 H locs hx_25 hP hD hS => ?_)
          refine lv_pop hX hB dX1_describe_62 rfl ?_
          refine lv_iinc (v := nI (k + 1)) (lv' := [(4, .int (nI (k + 1))), (5, .int (fl k)), (3, .int 4), (2, .ref t4), (0, .ref t3), (1, .ref g0)]) hX hB dX1_describe_63 hl (k := 1) rfl (zi_add (zi_i k) (zlit 1)) (by decide) rfl (fun ls hl => ?_)
          refine lv_goto (tgt := 34) hX hB dX1_describe_66 (by decide) ?_
          refine W.widen (show _ ≤ 3 + (k + 1) from by omega) (show _ ≤ 300 * (3 + (k + 1)) from by omega) ?_
          exact ih_6 (k + 1) (q + 1) (upd t_5 q 42) x_25 hx_25 (by omega) (by omega)  (by omega) (Eq.trans (by simp only [n_X1_describe_L1, if_neg c_7, if_neg c_23]) hF_0) _ _ hP hD hS ls (lv_sub hl [0, 2, 3, 4, 5] rfl)
  refine W.widen (show _ ≤ 3 + 0 from by omega) (show _ ≤ 300 * (3 + 0) from by omega) ?_
  exact loop_0 5 0 ((1 + sb_dg (zn u1)) + 1) (upd (zdec (upd (fun _ => 0) 0 120) 1 (zn u1)) (1 + sb_dg (zn u1)) 32) x_3 hx_3 (by omega) (by omega)  (by omega) (by simp only [n_X1_describe]) _ _ hP hD hS ls hl

def n_X4_describe_L1 (r1 : Int32) (fr0 : Nat → Int32) (fr1 : Nat → Int32) (fr2 : Nat → Int32) : Nat → Nat → Nat → (Nat → Int32) → (Nat → Int32) × Nat
  | 0, _, q, t_2 => (t_2, q)
  | n_1 + 1, k, q, t_2 =>
    if r1 ≤ nI k then
      (t_2, q)
    else
      if nI k ≤ 0 then
        n_X4_describe_L1 r1 fr0 fr1 fr2 n_1 (k + 1) (((((q + sb_dg (zn (fr0 k))) + 1) + sb_dg (zn (fr2 k))) + 1) + sb_dg (zn (fr1 k))) (zdec (upd (zdec (upd (zdec t_2 q (zn (fr0 k))) (q + sb_dg (zn (fr0 k))) 64) ((q + sb_dg (zn (fr0 k))) + 1) (zn (fr2 k))) (((q + sb_dg (zn (fr0 k))) + 1) + sb_dg (zn (fr2 k))) 112) ((((q + sb_dg (zn (fr0 k))) + 1) + sb_dg (zn (fr2 k))) + 1) (zn (fr1 k)))
      else
        n_X4_describe_L1 r1 fr0 fr1 fr2 n_1 (k + 1) ((((((q + 1) + sb_dg (zn (fr0 k))) + 1) + sb_dg (zn (fr2 k))) + 1) + sb_dg (zn (fr1 k))) (zdec (upd (zdec (upd (zdec (upd t_2 q 44) (q + 1) (zn (fr0 k))) ((q + 1) + sb_dg (zn (fr0 k))) 64) (((q + 1) + sb_dg (zn (fr0 k))) + 1) (zn (fr2 k))) ((((q + 1) + sb_dg (zn (fr0 k))) + 1) + sb_dg (zn (fr2 k))) 112) (((((q + 1) + sb_dg (zn (fr0 k))) + 1) + sb_dg (zn (fr2 k))) + 1) (zn (fr1 k)))
def n_X4_describe (r1 : Int32) (fr0 : Nat → Int32) (fr1 : Nat → Int32) (fr2 : Nat → Int32) : (Nat → Int32) × Nat :=
  n_X4_describe_L1 r1 fr0 fr1 fr2 6 0 0 (fun _ => 0)
def q_X4_describe (cy : Nat → ClassId) (t7 : Nat) (t8 : Nat) (t9 : Nat) (t10 : Nat) (g0 : Nat) (r1 : Int32) (fr0 : Nat → Int32) (fr1 : Nat → Int32) (fr2 : Nat → Int32) (o : (Nat → Int32) × Nat) (xo : zSBt) : va_W := [(t7, .inr (6, [.ref t8, .ref t9, .ref t10, .int r1])), (t8, .inl (cy 0, 5, .inl (fr0))), (t9, .inl (cy 0, 5, .inl (fr1))), (t10, .inl (cy 0, 5, .inl (fr2))), (g0, .inr (1, [.ref xo.1, .int 0, .int xo.2.2.2, .int (nI (o.2))])), (xo.1, .inl (cy 2, xo.2.1, .inl (xo.2.2.1)))]
set_option maxHeartbeats 4000000 in
set_option maxRecDepth 100000 in
theorem c_X4_describe (l : Launch) {E : zEn} (hE : zEok E) (D : zG) (cy : Nat → ClassId) (hOB : zOutB E) (t7 t8 t9 t10 g0 : Nat) (r1 : Int32) (fr0 : Nat → Int32) (fr1 : Nat → Int32) (fr2 : Nat → Int32) (x0 : zSBt) (hzr1 : zle r1 5) (hrs : ∀ k, k < 5 → zle (fr0 k) 99999999 ∧ zle (fr1 k) 3 ∧ zle (fr2 k) 99999999) (hx0 : zSB (fun _ => 0) 0 x0) (sz : Nat) : Met l yX4_describe (zws yX4_describe cX4_describe 3 none) { frames := 6, cells := 31, slots := 9300, locals := 241 } (zPre E D cy [.ref t7, .ref g0] [(t7, .inr (6, [.ref t8, .ref t9, .ref t10, .int r1])), (t8, .inl (cy 0, 5, .inl (fr0))), (t9, .inl (cy 0, 5, .inl (fr1))), (t10, .inl (cy 0, 5, .inl (fr2))), (g0, .inr (1, [.ref x0.1, .int 0, .int x0.2.2.2, .int (nI 0)])), (x0.1, .inl (cy 2, x0.2.1, .inl (x0.2.2.1)))] sz) (zQvr D (zSB (n_X4_describe r1 fr0 fr1 fr2).1 (n_X4_describe r1 fr0 fr1 fr2).2) ((q_X4_describe cy t7 t8 t9 t10 g0 r1 fr0 fr1 fr2) (n_X4_describe r1 fr0 fr1 fr2)) (va_A [(t7, .inr (6, [.ref t8, .ref t9, .ref t10, .int r1])), (t8, .inl (cy 0, 5, .inl (fr0))), (t9, .inl (cy 0, 5, .inl (fr1))), (t10, .inl (cy 0, 5, .inl (fr2))), (g0, .inr (1, [.ref x0.1, .int 0, .int x0.2.2.2, .int (nI 0)])), (x0.1, .inl (cy 2, x0.2.1, .inl (x0.2.2.1)))] sz)) 31 9300 (va_A [(t7, .inr (6, [.ref t8, .ref t9, .ref t10, .int r1])), (t8, .inl (cy 0, 5, .inl (fr0))), (t9, .inl (cy 0, 5, .inl (fr1))), (t10, .inl (cy 0, 5, .inl (fr2))), (g0, .inr (1, [.ref x0.1, .int 0, .int x0.2.2.2, .int (nI 0)])), (x0.1, .inl (cy 2, x0.2.1, .inl (x0.2.2.1)))] sz) := by
  refine z_of (Qc := fun A => zQvr D (zSB (n_X4_describe r1 fr0 fr1 fr2).1 (n_X4_describe r1 fr0 fr1 fr2).2) ((q_X4_describe cy t7 t8 t9 t10 g0 r1 fr0 fr1 fr2) (n_X4_describe r1 fr0 fr1 fr2)) A) (by decide +kernel) (Nat.le_of_ble_eq_true rfl) rfl ?_
  intro pG eN sT mI below meth cO A ls C hRT hnm hA hP hD hS hE0 hl
  have hX := C.x
  have hB := C.b
  have hzr1_ := hzr1.2
  refine lv_iconst (v := 0) hX hB dX4_describe_0 (by decide) ?_
  refine lv_istore_n (lv' := [(2, .int 0), (0, .ref t7), (1, .ref g0)]) hX hB dX4_describe_1 rfl hl (by decide) rfl (fun ls hl => ?_)
  have loop_0 : ∀ (n_1 : Nat) (k : Nat) (q : Nat) (t_2 : Nat → Int32) (xl_0 : zSBt), zSB t_2 q xl_0 → (k ≤ zn r1) → (q ≤ 20 * k) → zn r1 - k < n_1 → n_X4_describe_L1 r1 fr0 fr1 fr2 n_1 k q t_2 = n_X4_describe r1 fr0 fr1 fr2 → ∀ (H : Heap) (locs : List Loc), va_P D vwCl [(t7, .inr (6, [.ref t8, .ref t9, .ref t10, .int r1])), (t8, .inl (cy 0, 5, .inl (fr0))), (t9, .inl (cy 0, 5, .inl (fr1))), (t10, .inl (cy 0, 5, .inl (fr2))), (g0, .inr (1, [.ref xl_0.1, .int 0, .int xl_0.2.2.2, .int (nI q)])), (xl_0.1, .inl (cy 2, xl_0.2.1, .inl (xl_0.2.2.1)))] H → va_D A [(t7, .inr (6, [.ref t8, .ref t9, .ref t10, .int r1])), (t8, .inl (cy 0, 5, .inl (fr0))), (t9, .inl (cy 0, 5, .inl (fr1))), (t10, .inl (cy 0, 5, .inl (fr2))), (g0, .inr (1, [.ref xl_0.1, .int 0, .int xl_0.2.2.2, .int (nI q)])), (xl_0.1, .inl (cy 2, xl_0.2.1, .inl (xl_0.2.2.1)))] → va_S A sT.heap H locs → ∀ (ls : Array Slot), lv_has ls 3 [(2, .int (nI k)), (0, .ref t7), (1, .ref g0)] → W pG l eN { frames := 6, cells := 31, slots := 9300, locals := 241 } sT mI ([.ref t7, .ref g0] : List Value).toArray below meth cO H locs (6 * k) (300 * (6 * k)) (MQ below (zQvr D (zSB (n_X4_describe r1 fr0 fr1 fr2).1 (n_X4_describe r1 fr0 fr1 fr2).2) ((q_X4_describe cy t7 t8 t9 t10 g0 r1 fr0 fr1 fr2) (n_X4_describe r1 fr0 fr1 fr2)) A) ([.ref t7, .ref g0] : List Value).toArray sT 31 9300 A) (F0 mI 2 ls []) := by
    intro n_1
    induction n_1 with
    | zero =>
      intro k q t_2 xl_0 hxl_0 hb_0_0 hb_0_1 hm_0
      exact absurd hm_0 (by omega)
    | succ n_1 ih_3 =>
      intro k q t_2 xl_0 hxl_0 hb_0_0 hb_0_1 hm_0 hF_0 H locs hP hD hS ls hl
      refine lv_iload_n hX hB dX4_describe_2 rfl (lv_at hl 0 rfl) ?_
      refine lv_aload_n hX hB dX4_describe_3 rfl (lv_at hl 1 rfl) ?_
      refine fg_X4_27 C hP 0 rfl rfl dX4_describe_4 ?_
      refine lv_icmp_ge (tgt := 74) hX hB dX4_describe_7 (by decide) (fun c_4 => ?_) (fun c_4 => ?_)
      · have c_4n : zn r1 ≤ k := (zi_le_iff hzr1.1 (zi_i k) (by omega) (by omega)).mp c_4
        exact z_vretsb (t_2, q) (fun (o : (Nat → Int32) × Nat) => o.1) (fun (o : (Nat → Int32) × Nat) => o.2) (w' := q_X4_describe cy t7 t8 t9 t10 g0 r1 fr0 fr1 fr2) (hF_0.symm.trans (by simp only [n_X4_describe_L1, if_pos c_4])) xl_0 hxl_0 C hRT hP hD hS (by omega) (by omega) rfl dX4_describe_74
      · have c_4n : ¬ (zn r1 ≤ k) := fun z => c_4 ((zi_le_iff hzr1.1 (zi_i k) (by omega) (by omega)).mpr z)
        have hr1 := (hrs k (by omega)).1.2
        have hr2 := (hrs k (by omega)).2.1.2
        have hr3 := (hrs k (by omega)).2.2.2
        have hr4 := dg8 hr1
        have hr5 := dg1 hr2
        have hr6 := dg8 hr3
        refine lv_iload_n hX hB dX4_describe_10 rfl (lv_at hl 0 rfl) ?_
        refine lv_if_le (tgt := 21) hX hB dX4_describe_11 (by decide) (fun c_5 => ?_) (fun c_5 => ?_)
        · have c_5n : k ≤ 0 := (zi_le_iff (zi_i k) (zlit 0) (by omega) (by decide)).mp c_5
          refine lv_aload_n hX hB dX4_describe_21 rfl (lv_at hl 2 rfl) ?_
          refine lv_aload_n hX hB dX4_describe_22 rfl (lv_at hl 1 rfl) ?_
          refine fg_X4_9 C hP 0 rfl rfl dX4_describe_23 ?_
          refine lv_iload_n hX hB dX4_describe_26 rfl (lv_at hl 0 rfl) ?_
          refine z_iald C hP 1 rfl (k := k) (zi_i k) (by omega) (by decide) (v := fr0 k) rfl dX4_describe_27 ?_
          have hdg_x_6 := sb_dg_in (zn (fr0 k))
          refine z_appI (wr := [(t7, .inr (6, [.ref t8, .ref t9, .ref t10, .int r1])), (t8, .inl (cy 0, 5, .inl (fr0))), (t9, .inl (cy 0, 5, .inl (fr1))), (t10, .inl (cy 0, 5, .inl (fr2)))]) (t' := zdec t_2 q (zn (fr0 k))) hE hOB C zs_X4_47 ⟨Nat.le_of_ble_eq_true rfl, Nat.le_of_ble_eq_true rfl⟩ (w := (zn (fr0 k))) (by omega) hxl_0 (by omega) (fun j hj => zdec_lo hj) (fun i hi => zdec_hi hi) hP hD hS hA hE0 hl.1 (Nat.le_of_ble_eq_true rfl) (hrs k (by omega)).1.1 rfl dX4_describe_28 ⟨(show _ ≤ 31 from by omega), (show _ ≤ 9300 from by omega)⟩ (fun x_6 H locs hx_6 hP hD hS => ?_)
          refine lv_pop hX hB dX4_describe_31 rfl ?_
          refine lv_aload_n hX hB dX4_describe_32 rfl (lv_at hl 2 rfl) ?_
          refine lv_bipush (v := 64) hX hB dX4_describe_33 (by decide) ?_
          refine z_appC (wr := [(t7, .inr (6, [.ref t8, .ref t9, .ref t10, .int r1])), (t8, .inl (cy 0, 5, .inl (fr0))), (t9, .inl (cy 0, 5, .inl (fr1))), (t10, .inl (cy 0, 5, .inl (fr2)))]) hE hOB C zs_X4_41 ⟨Nat.le_of_ble_eq_true rfl, Nat.le_of_ble_eq_true rfl⟩ (zle_of (zlit 64) (by decide) (by decide)) hx_6 (by omega) hP hD hS hA hE0 hl.1 (Nat.le_of_ble_eq_true rfl) rfl dX4_describe_35 ⟨(show _ ≤ 31 from by omega), (show _ ≤ 9300 from by omega)⟩ (fun x_7 H locs hx_7 hP hD hS => ?_)
          refine lv_pop hX hB dX4_describe_38 rfl ?_
          refine lv_aload_n hX hB dX4_describe_39 rfl (lv_at hl 2 rfl) ?_
          refine lv_aload_n hX hB dX4_describe_40 rfl (lv_at hl 1 rfl) ?_
          refine fg_X4_18 C hP 0 rfl rfl dX4_describe_41 ?_
          refine lv_iload_n hX hB dX4_describe_44 rfl (lv_at hl 0 rfl) ?_
          refine z_iald C hP 3 rfl (k := k) (zi_i k) (by omega) (by decide) (v := fr2 k) rfl dX4_describe_45 ?_
          have hdg_x_8 := sb_dg_in (zn (fr2 k))
          refine z_appI (wr := [(t7, .inr (6, [.ref t8, .ref t9, .ref t10, .int r1])), (t8, .inl (cy 0, 5, .inl (fr0))), (t9, .inl (cy 0, 5, .inl (fr1))), (t10, .inl (cy 0, 5, .inl (fr2)))]) (t' := zdec (upd (zdec t_2 q (zn (fr0 k))) (q + sb_dg (zn (fr0 k))) 64) ((q + sb_dg (zn (fr0 k))) + 1) (zn (fr2 k))) hE hOB C zs_X4_47 ⟨Nat.le_of_ble_eq_true rfl, Nat.le_of_ble_eq_true rfl⟩ (w := (zn (fr2 k))) (by omega) hx_7 (by omega) (fun j hj => zdec_lo hj) (fun i hi => zdec_hi hi) hP hD hS hA hE0 hl.1 (Nat.le_of_ble_eq_true rfl) (hrs k (by omega)).2.2.1 rfl dX4_describe_46 ⟨(show _ ≤ 31 from by omega), (show _ ≤ 9300 from by omega)⟩ (fun x_8 H locs hx_8 hP hD hS => ?_)
          refine lv_pop hX hB dX4_describe_49 rfl ?_
          refine lv_aload_n hX hB dX4_describe_50 rfl (lv_at hl 2 rfl) ?_
          refine lv_bipush (v := 112) hX hB dX4_describe_51 (by decide) ?_
          refine z_appC (wr := [(t7, .inr (6, [.ref t8, .ref t9, .ref t10, .int r1])), (t8, .inl (cy 0, 5, .inl (fr0))), (t9, .inl (cy 0, 5, .inl (fr1))), (t10, .inl (cy 0, 5, .inl (fr2)))]) hE hOB C zs_X4_41 ⟨Nat.le_of_ble_eq_true rfl, Nat.le_of_ble_eq_true rfl⟩ (zle_of (zlit 112) (by decide) (by decide)) hx_8 (by omega) hP hD hS hA hE0 hl.1 (Nat.le_of_ble_eq_true rfl) rfl dX4_describe_53 ⟨(show _ ≤ 31 from by omega), (show _ ≤ 9300 from by omega)⟩ (fun x_9 H locs hx_9 hP hD hS => ?_)
          refine lv_pop hX hB dX4_describe_56 rfl ?_
          refine lv_aload_n hX hB dX4_describe_57 rfl (lv_at hl 2 rfl) ?_
          refine lv_aload_n hX hB dX4_describe_58 rfl (lv_at hl 1 rfl) ?_
          refine fg_X4_15 C hP 0 rfl rfl dX4_describe_59 ?_
          refine lv_iload_n hX hB dX4_describe_62 rfl (lv_at hl 0 rfl) ?_
          refine z_iald C hP 2 rfl (k := k) (zi_i k) (by omega) (by decide) (v := fr1 k) rfl dX4_describe_63 ?_
          have hdg_x_10 := sb_dg_in (zn (fr1 k))
          refine z_appI (wr := [(t7, .inr (6, [.ref t8, .ref t9, .ref t10, .int r1])), (t8, .inl (cy 0, 5, .inl (fr0))), (t9, .inl (cy 0, 5, .inl (fr1))), (t10, .inl (cy 0, 5, .inl (fr2)))]) (t' := zdec (upd (zdec (upd (zdec t_2 q (zn (fr0 k))) (q + sb_dg (zn (fr0 k))) 64) ((q + sb_dg (zn (fr0 k))) + 1) (zn (fr2 k))) (((q + sb_dg (zn (fr0 k))) + 1) + sb_dg (zn (fr2 k))) 112) ((((q + sb_dg (zn (fr0 k))) + 1) + sb_dg (zn (fr2 k))) + 1) (zn (fr1 k))) hE hOB C zs_X4_47 ⟨Nat.le_of_ble_eq_true rfl, Nat.le_of_ble_eq_true rfl⟩ (w := (zn (fr1 k))) (by omega) hx_9 (by omega) (fun j hj => zdec_lo hj) (fun i hi => zdec_hi hi) hP hD hS hA hE0 hl.1 (Nat.le_of_ble_eq_true rfl) (hrs k (by omega)).2.1.1 rfl dX4_describe_64 ⟨(show _ ≤ 31 from by omega), (show _ ≤ 9300 from by omega)⟩ (fun x_10 H locs hx_10 hP hD hS => ?_)
          refine lv_pop hX hB dX4_describe_67 rfl ?_
          refine lv_iinc (v := nI (k + 1)) (lv' := [(2, .int (nI (k + 1))), (0, .ref t7), (1, .ref g0)]) hX hB dX4_describe_68 hl (k := 0) rfl (zi_add (zi_i k) (zlit 1)) (by decide) rfl (fun ls hl => ?_)
          refine lv_goto (tgt := 2) hX hB dX4_describe_71 (by decide) ?_
          refine W.widen (show _ ≤ 6 * (k + 1) from by omega) (show _ ≤ 300 * (6 * (k + 1)) from by omega) ?_
          exact ih_3 (k + 1) (((((q + sb_dg (zn (fr0 k))) + 1) + sb_dg (zn (fr2 k))) + 1) + sb_dg (zn (fr1 k))) (zdec (upd (zdec (upd (zdec t_2 q (zn (fr0 k))) (q + sb_dg (zn (fr0 k))) 64) ((q + sb_dg (zn (fr0 k))) + 1) (zn (fr2 k))) (((q + sb_dg (zn (fr0 k))) + 1) + sb_dg (zn (fr2 k))) 112) ((((q + sb_dg (zn (fr0 k))) + 1) + sb_dg (zn (fr2 k))) + 1) (zn (fr1 k))) x_10 hx_10 (by omega) (by omega)  (by omega) (Eq.trans (by simp only [n_X4_describe_L1, if_neg c_4, if_pos c_5]) hF_0) _ _ hP hD hS ls (lv_sub hl [0, 1, 2] rfl)
        · have c_5n : ¬ (k ≤ 0) := fun z => c_5 ((zi_le_iff (zi_i k) (zlit 0) (by omega) (by decide)).mpr z)
          refine lv_aload_n hX hB dX4_describe_14 rfl (lv_at hl 2 rfl) ?_
          refine lv_bipush (v := 44) hX hB dX4_describe_15 (by decide) ?_
          refine z_appC (wr := [(t7, .inr (6, [.ref t8, .ref t9, .ref t10, .int r1])), (t8, .inl (cy 0, 5, .inl (fr0))), (t9, .inl (cy 0, 5, .inl (fr1))), (t10, .inl (cy 0, 5, .inl (fr2)))]) hE hOB C zs_X4_41 ⟨Nat.le_of_ble_eq_true rfl, Nat.le_of_ble_eq_true rfl⟩ (zle_of (zlit 44) (by decide) (by decide)) hxl_0 (by omega) hP hD hS hA hE0 hl.1 (Nat.le_of_ble_eq_true rfl) rfl dX4_describe_17 ⟨(show _ ≤ 31 from by omega), (show _ ≤ 9300 from by omega)⟩ (fun x_11 H locs hx_11 hP hD hS => ?_)
          refine lv_pop hX hB dX4_describe_20 rfl ?_
          refine lv_aload_n hX hB dX4_describe_21 rfl (lv_at hl 2 rfl) ?_
          refine lv_aload_n hX hB dX4_describe_22 rfl (lv_at hl 1 rfl) ?_
          refine fg_X4_9 C hP 0 rfl rfl dX4_describe_23 ?_
          refine lv_iload_n hX hB dX4_describe_26 rfl (lv_at hl 0 rfl) ?_
          refine z_iald C hP 1 rfl (k := k) (zi_i k) (by omega) (by decide) (v := fr0 k) rfl dX4_describe_27 ?_
          have hdg_x_12 := sb_dg_in (zn (fr0 k))
          refine z_appI (wr := [(t7, .inr (6, [.ref t8, .ref t9, .ref t10, .int r1])), (t8, .inl (cy 0, 5, .inl (fr0))), (t9, .inl (cy 0, 5, .inl (fr1))), (t10, .inl (cy 0, 5, .inl (fr2)))]) (t' := zdec (upd t_2 q 44) (q + 1) (zn (fr0 k))) hE hOB C zs_X4_47 ⟨Nat.le_of_ble_eq_true rfl, Nat.le_of_ble_eq_true rfl⟩ (w := (zn (fr0 k))) (by omega) hx_11 (by omega) (fun j hj => zdec_lo hj) (fun i hi => zdec_hi hi) hP hD hS hA hE0 hl.1 (Nat.le_of_ble_eq_true rfl) (hrs k (by omega)).1.1 rfl dX4_describe_28 ⟨(show _ ≤ 31 from by omega), (show _ ≤ 9300 from by omega)⟩ (fun x_12 H locs hx_12 hP hD hS => ?_)
          refine lv_pop hX hB dX4_describe_31 rfl ?_
          refine lv_aload_n hX hB dX4_describe_32 rfl (lv_at hl 2 rfl) ?_
          refine lv_bipush (v := 64) hX hB dX4_describe_33 (by decide) ?_
          refine z_appC (wr := [(t7, .inr (6, [.ref t8, .ref t9, .ref t10, .int r1])), (t8, .inl (cy 0, 5, .inl (fr0))), (t9, .inl (cy 0, 5, .inl (fr1))), (t10, .inl (cy 0, 5, .inl (fr2)))]) hE hOB C zs_X4_41 ⟨Nat.le_of_ble_eq_true rfl, Nat.le_of_ble_eq_true rfl⟩ (zle_of (zlit 64) (by decide) (by decide)) hx_12 (by omega) hP hD hS hA hE0 hl.1 (Nat.le_of_ble_eq_true rfl) rfl dX4_describe_35 ⟨(show _ ≤ 31 from by omega), (show _ ≤ 9300 from by omega)⟩ (fun x_13 H locs hx_13 hP hD hS => ?_)
          refine lv_pop hX hB dX4_describe_38 rfl ?_
          refine lv_aload_n hX hB dX4_describe_39 rfl (lv_at hl 2 rfl) ?_
          refine lv_aload_n hX hB dX4_describe_40 rfl (lv_at hl 1 rfl) ?_
          refine fg_X4_18 C hP 0 rfl rfl dX4_describe_41 ?_
          refine lv_iload_n hX hB dX4_describe_44 rfl (lv_at hl 0 rfl) ?_
          refine z_iald C hP 3 rfl (k := k) (zi_i k) (by omega) (by decide) (v := fr2 k) rfl dX4_describe_45 ?_
          have hdg_x_14 := sb_dg_in (zn (fr2 k))
          refine z_appI (wr := [(t7, .inr (6, [.ref t8, .ref t9, .ref t10, .int r1])), (t8, .inl (cy 0, 5, .inl (fr0))), (t9, .inl (cy 0, 5, .inl (fr1))), (t10, .inl (cy 0, 5, .inl (fr2)))]) (t' := zdec (upd (zdec (upd t_2 q 44) (q + 1) (zn (fr0 k))) ((q + 1) + sb_dg (zn (fr0 k))) 64) (((q + 1) + sb_dg (zn (fr0 k))) + 1) (zn (fr2 k))) hE hOB C zs_X4_47 ⟨Nat.le_of_ble_eq_true rfl, Nat.le_of_ble_eq_true rfl⟩ (w := (zn (fr2 k))) (by omega) hx_13 (by omega) (fun j hj => zdec_lo hj) (fun i hi => zdec_hi hi) hP hD hS hA hE0 hl.1 (Nat.le_of_ble_eq_true rfl) (hrs k (by omega)).2.2.1 rfl dX4_describe_46 ⟨(show _ ≤ 31 from by omega), (show _ ≤ 9300 from by omega)⟩ (fun x_14 H locs hx_14 hP hD hS => ?_)
          refine lv_pop hX hB dX4_describe_49 rfl ?_
          refine lv_aload_n hX hB dX4_describe_50 rfl (lv_at hl 2 rfl) ?_
          refine lv_bipush (v := 112) hX hB dX4_describe_51 (by decide) ?_
          refine z_appC (wr := [(t7, .inr (6, [.ref t8, .ref t9, .ref t10, .int r1])), (t8, .inl (cy 0, 5, .inl (fr0))), (t9, .inl (cy 0, 5, .inl (fr1))), (t10, .inl (cy 0, 5, .inl (fr2)))]) hE hOB C zs_X4_41 ⟨Nat.le_of_ble_eq_true rfl, Nat.le_of_ble_eq_true rfl⟩ (zle_of (zlit 112) (by decide) (by decide)) hx_14 (by omega) hP hD hS hA hE0 hl.1 (Nat.le_of_ble_eq_true rfl) rfl dX4_describe_53 ⟨(show _ ≤ 31 from by omega), (show _ ≤ 9300 from by omega)⟩ (fun x_15 H locs hx_15 hP hD hS => ?_)
          refine lv_pop hX hB dX4_describe_56 rfl ?_
          refine lv_aload_n hX hB dX4_describe_57 rfl (lv_at hl 2 rfl) ?_
          refine lv_aload_n hX hB dX4_describe_58 rfl (lv_at hl 1 rfl) ?_
          refine fg_X4_15 C hP 0 rfl rfl dX4_describe_59 ?_
          refine lv_iload_n hX hB dX4_describe_62 rfl (lv_at hl 0 rfl) ?_
          refine z_iald C hP 2 rfl (k := k) (zi_i k) (by omega) (by decide) (v := fr1 k) rfl dX4_describe_63 ?_
          have hdg_x_16 := sb_dg_in (zn (fr1 k))
          refine z_appI (wr := [(t7, .inr (6, [.ref t8, .ref t9, .ref t10, .int r1])), (t8, .inl (cy 0, 5, .inl (fr0))), (t9, .inl (cy 0, 5, .inl (fr1))), (t10, .inl (cy 0, 5, .inl (fr2)))]) (t' := zdec (upd (zdec (upd (zdec (upd t_2 q 44) (q + 1) (zn (fr0 k))) ((q + 1) + sb_dg (zn (fr0 k))) 64) (((q + 1) + sb_dg (zn (fr0 k))) + 1) (zn (fr2 k))) ((((q + 1) + sb_dg (zn (fr0 k))) + 1) + sb_dg (zn (fr2 k))) 112) (((((q + 1) + sb_dg (zn (fr0 k))) + 1) + sb_dg (zn (fr2 k))) + 1) (zn (fr1 k))) hE hOB C zs_X4_47 ⟨Nat.le_of_ble_eq_true rfl, Nat.le_of_ble_eq_true rfl⟩ (w := (zn (fr1 k))) (by omega) hx_15 (by omega) (fun j hj => zdec_lo hj) (fun i hi => zdec_hi hi) hP hD hS hA hE0 hl.1 (Nat.le_of_ble_eq_true rfl) (hrs k (by omega)).2.1.1 rfl dX4_describe_64 ⟨(show _ ≤ 31 from by omega), (show _ ≤ 9300 from by omega)⟩ (fun x_16 H locs hx_16 hP hD hS => ?_)
          refine lv_pop hX hB dX4_describe_67 rfl ?_
          refine lv_iinc (v := nI (k + 1)) (lv' := [(2, .int (nI (k + 1))), (0, .ref t7), (1, .ref g0)]) hX hB dX4_describe_68 hl (k := 0) rfl (zi_add (zi_i k) (zlit 1)) (by decide) rfl (fun ls hl => ?_)
          refine lv_goto (tgt := 2) hX hB dX4_describe_71 (by decide) ?_
          refine W.widen (show _ ≤ 6 * (k + 1) from by omega) (show _ ≤ 300 * (6 * (k + 1)) from by omega) ?_
          exact ih_3 (k + 1) ((((((q + 1) + sb_dg (zn (fr0 k))) + 1) + sb_dg (zn (fr2 k))) + 1) + sb_dg (zn (fr1 k))) (zdec (upd (zdec (upd (zdec (upd t_2 q 44) (q + 1) (zn (fr0 k))) ((q + 1) + sb_dg (zn (fr0 k))) 64) (((q + 1) + sb_dg (zn (fr0 k))) + 1) (zn (fr2 k))) ((((q + 1) + sb_dg (zn (fr0 k))) + 1) + sb_dg (zn (fr2 k))) 112) (((((q + 1) + sb_dg (zn (fr0 k))) + 1) + sb_dg (zn (fr2 k))) + 1) (zn (fr1 k))) x_16 hx_16 (by omega) (by omega)  (by omega) (Eq.trans (by simp only [n_X4_describe_L1, if_neg c_4, if_neg c_5]) hF_0) _ _ hP hD hS ls (lv_sub hl [0, 1, 2] rfl)
  refine W.widen (show _ ≤ 6 * 0 from by omega) (show _ ≤ 300 * (6 * 0) from by omega) ?_
  exact loop_0 6 0 0 (fun _ => 0) x0 hx0 (by omega) (by omega)  (by omega) (by simp only [n_X4_describe]) _ _ hP hD hS ls hl
