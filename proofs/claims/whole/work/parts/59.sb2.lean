theorem zk127 : ∀ k, k < 128 → (nI k) &&& 255 = nI k ∧ ((nI k).toUInt32 % 65536).toInt32 = nI k := by decide +kernel
theorem zk127z {x : Int32} (h : zle x 127) : x &&& 255 = x ∧ (x.toUInt32 % 65536).toInt32 = x := by
  have h1 : x = nI (zn x) := h.1
  rw [h1]; exact zk127 _ (by have := h.2; omega)
theorem zFr_sb (wr : va_W) (cy : Nat → ClassId) (b n n' : Nat) (x x' : zSBt) : zFr (wr ++ zSBw cy b x n) (zSBw cy b x n) (zSBw cy b x' n') (wr ++ zSBw cy b x' n') (List.range' wr.length 2) (List.range wr.length) (List.range (wr.length + 2)) := by
  have h := zFr_end wr (zSBw cy b x n) (zSBw cy b x' n')
  rw [List.length_append, show (zSBw cy b x' n').length = 2 from rfl, show (zSBw cy b x n).length = 2 from rfl] at h
  exact h
theorem z_sbat (wr : va_W) (cy : Nat → ClassId) (b n : Nat) (x : zSBt) : (wr ++ zSBw cy b x n)[wr.length]? = some (b, .inr (1, [.ref x.1, .int 0, .int x.2.2.2, .int (nI n)])) := by
  rw [List.getElem?_append_right (Nat.le_refl _), Nat.sub_self]
  rfl
set_option maxHeartbeats 4000000 in
set_option maxRecDepth 100000 in
theorem c_J0_checkIndex (l : Launch) {E : zEn} (hE : zEok E) (D : zG) (cy : Nat → ClassId) (hOB : zOutB E) (i n : Nat) (h : i < n) (hn : n < 2 ^ 31) (sz : Nat) : Met l yJ0_checkIndex_df160 (zws yJ0_checkIndex_df160 cJ0_checkIndex_df160 2 none) { frames := 1, cells := 0, slots := 0, locals := 40 } (zPre E D cy [.int (nI i), .int (nI n)] [] sz) (zQv D [] (va_A [] sz)) 0 0 (va_A [] sz) := by
  refine z_of (Qc := fun A => zQv D [] A) (by decide +kernel) (Nat.le_of_ble_eq_true rfl) rfl ?_
  intro pG eN sT mI below meth cO A ls C hRT hnm hA hP hD hS hE0 hl
  have hX := C.x
  have hB := C.b
  refine lv_iload_n hX hB dJ0_checkIndex_df160_0 rfl (lv_at hl 0 rfl) ?_
  refine lv_iload_n hX hB dJ0_checkIndex_df160_1 rfl (lv_at hl 1 rfl) ?_
  rcases (hOB _ _ _ hE0).2.2.2.1 with hZ | ⟨q, hZ⟩
  · refine va_gets hX hB hZ hS C.o (C.ts _ zm1143) (fun _ h => h) dJ0_checkIndex_df160_2 ?_
    refine z_callSi (isC := []) (isR := []) (isO := []) (n_J3_checkIndex_n i) q_J3_checkIndex_n (fun _ => []) (fun o => o) (c_J3_checkIndex_n l hE D cy i n h hn) hE C zs_J0_1059 ⟨Nat.le_of_ble_eq_true rfl, Nat.le_of_ble_eq_true rfl⟩ hP hD hS hA hE0 ⟨rfl, rfl, rfl, by decide, rfl, rfl, rfl⟩ rfl hl.1 (Nat.le_of_ble_eq_true rfl) rfl dJ0_checkIndex_df160_5 ⟨Nat.le_of_ble_eq_true rfl, Nat.le_of_ble_eq_true rfl⟩ (fun o H locs eo hP hD hS => ?_)
    refine lv_pop hX hB dJ0_checkIndex_df160_8 rfl ?_
    exact z_vret C hRT hP hD hS (Nat.le_of_ble_eq_true rfl) (Nat.le_of_ble_eq_true rfl) rfl dJ0_checkIndex_df160_9
  · refine va_gets hX hB hZ hS C.o (C.ts _ zm1143) (fun _ h => h) dJ0_checkIndex_df160_2 ?_
    refine z_callSi (isC := []) (isR := []) (isO := []) (n_J3_checkIndex_r i) q_J3_checkIndex_r (fun _ => []) (fun o => o) (c_J3_checkIndex_r l hE D cy q i n h hn) hE C zs_J0_1059 ⟨Nat.le_of_ble_eq_true rfl, Nat.le_of_ble_eq_true rfl⟩ hP hD hS hA hE0 ⟨rfl, rfl, rfl, by decide, rfl, rfl, rfl⟩ rfl hl.1 (Nat.le_of_ble_eq_true rfl) rfl dJ0_checkIndex_df160_5 ⟨Nat.le_of_ble_eq_true rfl, Nat.le_of_ble_eq_true rfl⟩ (fun o H locs eo hP hD hS => ?_)
    refine lv_pop hX hB dJ0_checkIndex_df160_8 rfl ?_
    exact z_vret C hRT hP hD hS (Nat.le_of_ble_eq_true rfl) (Nat.le_of_ble_eq_true rfl) rfl dJ0_checkIndex_df160_9
set_option maxHeartbeats 4000000 in
set_option maxRecDepth 100000 in
theorem c_J5_charAt (l : Launch) {E : zEn} (hE : zEok E) (D : zG) (cy : Nat → ClassId) (hOB : zOutB E) (b : Nat) (x : zSBt) (t : Nat → Int32) (n i : Nat) (hi : i < n) (hx : zSB t n x) (sz : Nat) : Met l yJ5_charAt_5068e (zws yJ5_charAt_5068e cJ5_charAt_5068e 5 (some .char)) { frames := 2, cells := 0, slots := 0, locals := 100 } (zPre E D cy [.ref b, .int (nI i)] (zSBw cy b x n) sz) (zQi D (zSBw cy b x n) (va_A (zSBw cy b x n) sz) (t i)) 0 0 (va_A (zSBw cy b x n) sz) := by
  refine z_of (Qc := fun A => zQi D (zSBw cy b x n) A (t i)) (by decide +kernel) (Nat.le_of_ble_eq_true rfl) rfl ?_
  intro pG eN sT mI below meth cO A ls C hRT hnm hA hP hD hS hE0 hl
  have hX := C.x
  have hB := C.b
  obtain ⟨a, m, f, ml⟩ := x
  have hm : n ≤ m := hx.2.1
  have h300 : m ≤ 300 := hx.1.2.1
  have hfi : f i = t i := (hx.2.2 i hi).1
  have hk := zk127z (hx.2.2 i hi).2
  refine lv_aload_n hX hB dJ5_charAt_5068e_0 rfl (lv_at hl 0 rfl) ?_
  refine fg_J5_22 C hP 0 rfl rfl dJ5_charAt_5068e_1 ?_
  refine lv_istore_n (lv' := [(2, .int 0), (0, .ref b), (1, .int (nI i))]) hX hB dJ5_charAt_5068e_4 rfl hl (by decide) rfl (fun ls hl => ?_)
  refine lv_aload_n hX hB dJ5_charAt_5068e_5 rfl (lv_at hl 1 rfl) ?_
  refine fg_J5_15 C hP 0 rfl rfl dJ5_charAt_5068e_6 ?_
  refine lv_astore_n (lv' := [(3, .ref a), (2, .int 0), (0, .ref b), (1, .int (nI i))]) hX hB dJ5_charAt_5068e_9 rfl hl (by decide) rfl (fun ls hl => ?_)
  refine lv_aload_n hX hB dJ5_charAt_5068e_10 rfl (lv_at hl 2 rfl) ?_
  refine fg_J5_79 C hP 0 rfl rfl dJ5_charAt_5068e_11 ?_
  refine lv_aload_n hX hB dJ5_charAt_5068e_14 rfl (lv_at hl 0 rfl) ?_
  refine z_alen C hP 1 2 rfl rfl (v := nI m) rfl dJ5_charAt_5068e_15 ?_
  refine lv_iload_n hX hB dJ5_charAt_5068e_16 rfl (lv_at hl 1 rfl) ?_
  refine lv_ishr hX hB dJ5_charAt_5068e_17 ?_
  rw [sb_shr0]
  refine va_mmin hX hB (C.2.2.1.trans hl.1.symm) C.o (C.ts _ zm1249) (C.ts _ zm198) (C.ts _ zm199) (C.ts _ zm200) (Nat.le_of_ble_eq_true rfl) (Nat.le_of_ble_eq_true rfl) (Nat.le_of_ble_eq_true rfl) (Nat.le_of_ble_eq_true rfl) dJ5_charAt_5068e_18 ?_
  rw [if_neg (show ¬ nI m < nI n from nI_nlt (by omega) (by omega))]
  refine lv_istore (lv' := [(4, .int (nI n)), (3, .ref a), (2, .int 0), (0, .ref b), (1, .int (nI i))]) hX hB dJ5_charAt_5068e_21 hl (by decide) rfl (fun ls hl => ?_)
  refine lv_iload_n hX hB dJ5_charAt_5068e_23 rfl (lv_at hl 4 rfl) ?_
  refine lv_iload hX hB dJ5_charAt_5068e_24 (lv_at hl 0 rfl) ?_
  refine z_callSv (isC := []) (isR := [0, 1]) (isO := [0, 1]) () (fun _ => []) (fun _ => zSBw cy b (a, m, f, ml) n) (c_J0_checkIndex l hE D cy hOB i n hi (by omega)) hE C zs_J5_144 ⟨Nat.le_of_ble_eq_true rfl, Nat.le_of_ble_eq_true rfl⟩ hP hD hS hA hE0 ⟨rfl, rfl, rfl, by decide, rfl, rfl, rfl⟩ rfl hl.1 (Nat.le_of_ble_eq_true rfl) rfl dJ5_charAt_5068e_26 ⟨Nat.le_of_ble_eq_true rfl, Nat.le_of_ble_eq_true rfl⟩ (fun o H locs eo hP hD hS => ?_)
  refine lv_iload_n hX hB dJ5_charAt_5068e_29 rfl (lv_at hl 2 rfl) ?_
  refine lv_if_ne (tgt := 42) hX hB dJ5_charAt_5068e_30 (by decide) (fun c => absurd rfl c) (fun _ => ?_)
  refine lv_aload_n hX hB dJ5_charAt_5068e_33 rfl (lv_at hl 1 rfl) ?_
  refine lv_iload_n hX hB dJ5_charAt_5068e_34 rfl (lv_at hl 4 rfl) ?_
  refine z_bald C hP 1 rfl (k := i) (zi_i i) (show i < m from by omega) (show m < 2 ^ 31 from by omega) (v := t i) hfi dJ5_charAt_5068e_35 ?_
  refine lv_sipush (v := 255) hX hB dJ5_charAt_5068e_36 (by decide) ?_
  refine z_iand (v := t i) C dJ5_charAt_5068e_39 hk.1 ?_
  refine lv_i2c (v := t i) hX hB dJ5_charAt_5068e_40 hk.2 ?_
  exact z_zret C hRT (by have h9 := pk_nc (t i); rw [hk.2] at h9; exact h9) hP hD hS (Nat.le_of_ble_eq_true rfl) (Nat.le_of_ble_eq_true rfl) rfl rfl dJ5_charAt_5068e_41
set_option maxHeartbeats 4000000 in
set_option maxRecDepth 100000 in
theorem c_J5_setLength0 (l : Launch) {E : zEn} (hE : zEok E) (D : zG) (cy : Nat → ClassId) (hOB : zOutB E) (b : Nat) (x : zSBt) (t t' : Nat → Int32) (n : Nat) (hx : zSB t n x) (sz : Nat) : Met l yJ5_setLength_d00df (zws yJ5_setLength_d00df cJ5_setLength_d00df 2 none) { frames := 4, cells := 1, slots := 300, locals := 180 } (zPre E D cy [.ref b, .int 0] (zSBw cy b x n) sz) (zQvr D (zSB t' 0) (fun x' => zSBw cy b x' 0) (va_A (zSBw cy b x n) sz)) 1 300 (va_A (zSBw cy b x n) sz) := by
  refine z_of (Qc := fun A => zQvr D (zSB t' 0) (fun x' => zSBw cy b x' 0) A) (by decide +kernel) (Nat.le_of_ble_eq_true rfl) rfl ?_
  intro pG eN sT mI below meth cO A ls C hRT hnm hA hP hD hS hE0 hl
  have hX := C.x
  have hB := C.b
  have hn3 : n ≤ 300 := Nat.le_trans hx.2.1 hx.1.2.1
  refine lv_iload_n hX hB dJ5_setLength_d00df_0 rfl (lv_at hl 1 rfl) ?_
  refine lv_if_ge (tgt := 13) hX hB dJ5_setLength_d00df_1 (by decide) (fun _ => ?_) (fun c => absurd (by decide) c)
  refine lv_aload_n hX hB dJ5_setLength_d00df_13 rfl (lv_at hl 0 rfl) ?_
  refine lv_iload_n hX hB dJ5_setLength_d00df_14 rfl (lv_at hl 1 rfl) ?_
  refine z_govr (T := zSBt) x (Rl := zEns 0 x) (wc' := fun x' => zSBw cy b x' n) (w' := fun x' => zSBw cy b x' n) (wc := zSBw cy b x n) (isC := [0, 1]) (isR := []) (isO := [0, 1]) (z_runU (isC := [0, 1]) (K := RJ4) (As := [.int (nI 0)]) (Qc := fun A => zQvr D (zEns 0 x) (fun x' => zSBw cy b x' n) A) (c_J5_ensure l hE D cy hOB b x n 0 hx.1 (by omega)) hE C zu_J5_100 (va_tabs rfl rfl (hOB _ _ _ hE0).2.2.2.2.1) ⟨Nat.le_of_ble_eq_true rfl, Nat.le_of_ble_eq_true rfl⟩ hP hD hS hA hE0 rfl (by decide) 0 rfl rfl rfl rfl hl.1 (Nat.le_of_ble_eq_true rfl) rfl dJ5_setLength_d00df_15 ⟨Nat.le_of_ble_eq_true rfl, Nat.le_of_ble_eq_true rfl⟩) hP hD hS hA (fun _ => ⟨rfl, rfl, rfl, by decide, rfl, rfl, rfl⟩) (fun x' H locs hx' hP hD hS => ?_)
  obtain ⟨a, m, f, ml⟩ := x'
  refine lv_aload_n hX hB dJ5_setLength_d00df_18 rfl (lv_at hl 0 rfl) ?_
  refine fg_J5_79 C hP 0 rfl rfl dJ5_setLength_d00df_19 ?_
  refine lv_iload_n hX hB dJ5_setLength_d00df_22 rfl (lv_at hl 1 rfl) ?_
  refine lv_icmp_ge (tgt := 63) hX hB dJ5_setLength_d00df_23 (by decide) (fun _ => ?_) (fun c => absurd (nI_pos' (by omega)) c)
  refine lv_aload_n hX hB dJ5_setLength_d00df_63 rfl (lv_at hl 0 rfl) ?_
  refine fg_J5_79 C hP 0 rfl rfl dJ5_setLength_d00df_64 ?_
  refine lv_iload_n hX hB dJ5_setLength_d00df_67 rfl (lv_at hl 1 rfl) ?_
  refine lv_icmp_le (tgt := 76) hX hB dJ5_setLength_d00df_68 (by decide) (fun c1 => ?_) (fun c1 => ?_)
  · refine lv_aload_n hX hB dJ5_setLength_d00df_76 rfl (lv_at hl 0 rfl) ?_
    refine lv_iload_n hX hB dJ5_setLength_d00df_77 rfl (lv_at hl 1 rfl) ?_
    refine fp_J5_79 C hP hD hS 0 rfl rfl rfl (Nat.le_of_ble_eq_true rfl) (w' := zSBw cy b (a, m, f, ml) 0) rfl dJ5_setLength_d00df_78 (fun H locs hP hD hS => ?_)
    exact z_vretr (a, m, f, ml) ⟨hx'.1, Nat.zero_le _, fun j hj => absurd hj (Nat.not_lt_zero j)⟩ C hRT hP hD hS (Nat.le_of_ble_eq_true rfl) (Nat.le_of_ble_eq_true rfl) rfl dJ5_setLength_d00df_81
  · refine lv_aload_n hX hB dJ5_setLength_d00df_71 rfl (lv_at hl 0 rfl) ?_
    refine lv_iconst (v := 1) hX hB dJ5_setLength_d00df_72 (by decide) ?_
    refine fp_J5_73 C hP hD hS 0 rfl (zb01 (Or.inr rfl)) (zfitb (Or.inr rfl)) (Nat.le_of_ble_eq_true rfl) (w' := zSBw cy b (a, m, f, 1) n) rfl dJ5_setLength_d00df_73 (fun H locs hP hD hS => ?_)
    refine lv_aload_n hX hB dJ5_setLength_d00df_76 rfl (lv_at hl 0 rfl) ?_
    refine lv_iload_n hX hB dJ5_setLength_d00df_77 rfl (lv_at hl 1 rfl) ?_
    refine fp_J5_79 C hP hD hS 0 rfl rfl rfl (Nat.le_of_ble_eq_true rfl) (w' := zSBw cy b (a, m, f, 1) 0) rfl dJ5_setLength_d00df_78 (fun H locs hP hD hS => ?_)
    exact z_vretr (a, m, f, 1) ⟨⟨hx'.1.1, hx'.1.2.1, Or.inr rfl, hx'.1.2.2.2⟩, Nat.zero_le _, fun j hj => absurd hj (Nat.not_lt_zero j)⟩ C hRT hP hD hS (Nat.le_of_ble_eq_true rfl) (Nat.le_of_ble_eq_true rfl) rfl dJ5_setLength_d00df_81
set_option maxHeartbeats 4000000 in
set_option maxRecDepth 100000 in
theorem c_J4_appendC (l : Launch) {E : zEn} (hE : zEok E) (D : zG) (cy : Nat → ClassId) (hOB : zOutB E) (b : Nat) (x : zSBt) (t : Nat → Int32) (n : Nat) (ch : Int32) (hc : zle ch 127) (hx : zSB t n x) (hn : n ≤ 119) (sz : Nat) : Met l yJ4_append_cf468 (zws yJ4_append_cf468 cJ4_append_cf468 2 (some (.object "java/lang/StringBuilder"))) { frames := 5, cells := 1, slots := 300, locals := 220 } (zPre E D cy [.ref b, .int ch] (zSBw cy b x n) sz) (zQqr D (zSB (upd t n ch) (n + 1)) (fun x' => zSBw cy b x' (n + 1)) (fun _ => some b) (va_A (zSBw cy b x n) sz)) 1 300 (va_A (zSBw cy b x n) sz) := by
  refine z_of (Qc := fun A => zQqr D (zSB (upd t n ch) (n + 1)) (fun x' => zSBw cy b x' (n + 1)) (fun _ => some b) A) (by decide +kernel) (Nat.le_of_ble_eq_true rfl) rfl ?_
  intro pG eN sT mI below meth cO A ls C hRT hnm hA hP hD hS hE0 hl
  have hX := C.x
  have hB := C.b
  refine lv_aload_n hX hB dJ4_append_cf468_0 rfl (lv_at hl 0 rfl) ?_
  refine lv_iload_n hX hB dJ4_append_cf468_1 rfl (lv_at hl 1 rfl) ?_
  refine z_goqr (T := zSBt) x (Rl := zSB (upd t n ch) (n + 1)) (wc' := fun x' => zSBw cy b x' (n + 1)) (w' := fun x' => zSBw cy b x' (n + 1)) (r0 := fun _ => some b) (wc := zSBw cy b x n) (isC := [0, 1]) (isR := []) (isO := [0, 1]) (z_runSU (isC := [0, 1]) (Qc := fun A => zQqr D (zSB (upd t n ch) (n + 1)) (fun x' => zSBw cy b x' (n + 1)) (fun _ => some b) A) (c_J5_appendC l hE D cy hOB b x t n ch hc hx hn) hE C zu_J4_50 zm1044 (by decide) ⟨Nat.le_of_ble_eq_true rfl, Nat.le_of_ble_eq_true rfl⟩ hP hD hS hA hE0 rfl (by decide) 0 rfl rfl rfl hl.1 (Nat.le_of_ble_eq_true rfl) rfl dJ4_append_cf468_2 ⟨Nat.le_of_ble_eq_true rfl, Nat.le_of_ble_eq_true rfl⟩) hP hD hS hA (fun _ => ⟨rfl, rfl, rfl, by decide, rfl, rfl, rfl⟩) (fun x' H locs hx' hP hD hS => ?_)
  refine lv_pop hX hB dJ4_append_cf468_5 rfl ?_
  refine lv_aload_n hX hB dJ4_append_cf468_6 rfl (lv_at hl 0 rfl) ?_
  exact z_aretr x' hx' C hRT (Or.inl ⟨_, rfl⟩) hP hD hS (Nat.le_of_ble_eq_true rfl) (Nat.le_of_ble_eq_true rfl) rfl rfl dJ4_append_cf468_7
set_option maxHeartbeats 4000000 in
set_option maxRecDepth 100000 in
theorem c_J4_appendI (l : Launch) {E : zEn} (hE : zEok E) (D : zG) (cy : Nat → ClassId) (hOB : zOutB E) (b : Nat) (x : zSBt) (t t' : Nat → Int32) (n w : Nat) (hw : w < 2 ^ 31) (hx : zSB t n x) (hn : n + sb_dg w ≤ 120) (ht1 : ∀ j, j < n → t' j = t j) (ht2 : ∀ i, i < sb_dg w → t' (n + sb_dg w - 1 - i) = nI (48 + w / 10 ^ i % 10)) (sz : Nat) : Met l yJ4_append_bf812 (zws yJ4_append_bf812 cJ4_append_bf812 2 (some (.object "java/lang/StringBuilder"))) { frames := 5, cells := 1, slots := 300, locals := 220 } (zPre E D cy [.ref b, .int (nI w)] (zSBw cy b x n) sz) (zQqr D (zSB t' (n + sb_dg w)) (fun x' => zSBw cy b x' (n + sb_dg w)) (fun _ => some b) (va_A (zSBw cy b x n) sz)) 1 300 (va_A (zSBw cy b x n) sz) := by
  refine z_of (Qc := fun A => zQqr D (zSB t' (n + sb_dg w)) (fun x' => zSBw cy b x' (n + sb_dg w)) (fun _ => some b) A) (by decide +kernel) (Nat.le_of_ble_eq_true rfl) rfl ?_
  intro pG eN sT mI below meth cO A ls C hRT hnm hA hP hD hS hE0 hl
  have hX := C.x
  have hB := C.b
  refine lv_aload_n hX hB dJ4_append_bf812_0 rfl (lv_at hl 0 rfl) ?_
  refine lv_iload_n hX hB dJ4_append_bf812_1 rfl (lv_at hl 1 rfl) ?_
  refine z_goqr (T := zSBt) x (Rl := zSB t' (n + sb_dg w)) (wc' := fun x' => zSBw cy b x' (n + sb_dg w)) (w' := fun x' => zSBw cy b x' (n + sb_dg w)) (r0 := fun _ => some b) (wc := zSBw cy b x n) (isC := [0, 1]) (isR := []) (isO := [0, 1]) (z_runSU (isC := [0, 1]) (Qc := fun A => zQqr D (zSB t' (n + sb_dg w)) (fun x' => zSBw cy b x' (n + sb_dg w)) (fun _ => some b) A) (c_J5_appendI l hE D cy hOB b x t t' n w hw hx hn ht1 ht2) hE C zu_J4_53 zm1044 (by decide) ⟨Nat.le_of_ble_eq_true rfl, Nat.le_of_ble_eq_true rfl⟩ hP hD hS hA hE0 rfl (by decide) 0 rfl rfl rfl hl.1 (Nat.le_of_ble_eq_true rfl) rfl dJ4_append_bf812_2 ⟨Nat.le_of_ble_eq_true rfl, Nat.le_of_ble_eq_true rfl⟩) hP hD hS hA (fun _ => ⟨rfl, rfl, rfl, by decide, rfl, rfl, rfl⟩) (fun x' H locs hx' hP hD hS => ?_)
  refine lv_pop hX hB dJ4_append_bf812_5 rfl ?_
  refine lv_aload_n hX hB dJ4_append_bf812_6 rfl (lv_at hl 0 rfl) ?_
  exact z_aretr x' hx' C hRT (Or.inl ⟨_, rfl⟩) hP hD hS (Nat.le_of_ble_eq_true rfl) (Nat.le_of_ble_eq_true rfl) rfl rfl dJ4_append_bf812_7
set_option maxHeartbeats 4000000 in
set_option maxRecDepth 100000 in
theorem c_J4_setLength0 (l : Launch) {E : zEn} (hE : zEok E) (D : zG) (cy : Nat → ClassId) (hOB : zOutB E) (b : Nat) (x : zSBt) (t t' : Nat → Int32) (n : Nat) (hx : zSB t n x) (sz : Nat) : Met l yJ4_setLength_d00df (zws yJ4_setLength_d00df cJ4_setLength_d00df 2 none) { frames := 5, cells := 1, slots := 300, locals := 220 } (zPre E D cy [.ref b, .int 0] (zSBw cy b x n) sz) (zQvr D (zSB t' 0) (fun x' => zSBw cy b x' 0) (va_A (zSBw cy b x n) sz)) 1 300 (va_A (zSBw cy b x n) sz) := by
  refine z_of (Qc := fun A => zQvr D (zSB t' 0) (fun x' => zSBw cy b x' 0) A) (by decide +kernel) (Nat.le_of_ble_eq_true rfl) rfl ?_
  intro pG eN sT mI below meth cO A ls C hRT hnm hA hP hD hS hE0 hl
  have hX := C.x
  have hB := C.b
  refine lv_aload_n hX hB dJ4_setLength_d00df_0 rfl (lv_at hl 0 rfl) ?_
  refine lv_iload_n hX hB dJ4_setLength_d00df_1 rfl (lv_at hl 1 rfl) ?_
  refine z_govr (T := zSBt) x (Rl := zSB t' 0) (wc' := fun x' => zSBw cy b x' 0) (w' := fun x' => zSBw cy b x' 0) (wc := zSBw cy b x n) (isC := [0, 1]) (isR := []) (isO := [0, 1]) (z_runSU (isC := [0, 1]) (Qc := fun A => zQvr D (zSB t' 0) (fun x' => zSBw cy b x' 0) A) (c_J5_setLength0 l hE D cy hOB b x t t' n hx) hE C zu_J4_333 zm1044 (by decide) ⟨Nat.le_of_ble_eq_true rfl, Nat.le_of_ble_eq_true rfl⟩ hP hD hS hA hE0 rfl (by decide) 0 rfl rfl rfl hl.1 (Nat.le_of_ble_eq_true rfl) rfl dJ4_setLength_d00df_2 ⟨Nat.le_of_ble_eq_true rfl, Nat.le_of_ble_eq_true rfl⟩) hP hD hS hA (fun _ => ⟨rfl, rfl, rfl, by decide, rfl, rfl, rfl⟩) (fun x' H locs hx' hP hD hS => ?_)
  exact z_vretr x' hx' C hRT hP hD hS (Nat.le_of_ble_eq_true rfl) (Nat.le_of_ble_eq_true rfl) rfl dJ4_setLength_d00df_5
set_option maxHeartbeats 4000000 in
set_option maxRecDepth 100000 in
theorem c_J5_length (l : Launch) {E : zEn} (hE : zEok E) (D : zG) (cy : Nat → ClassId) (b : Nat) (x : zSBt) (n : Nat) (sz : Nat) : Met l yJ5_length_8abf5 (zws yJ5_length_8abf5 cJ5_length_8abf5 1 (some .int)) { frames := 0, cells := 0, slots := 0, locals := 0 } (zPre E D cy [.ref b] (zSBw cy b x n) sz) (zQi D (zSBw cy b x n) (va_A (zSBw cy b x n) sz) (nI n)) 0 0 (va_A (zSBw cy b x n) sz) := by
  refine z_of (Qc := fun A => zQi D (zSBw cy b x n) A (nI n)) (by decide +kernel) (Nat.le_of_ble_eq_true rfl) rfl ?_
  intro pG eN sT mI below meth cO A ls C hRT hnm hA hP hD hS hE0 hl
  have hX := C.x
  have hB := C.b
  refine lv_aload_n hX hB dJ5_length_8abf5_0 rfl (lv_at hl 0 rfl) ?_
  refine fg_J5_79 C hP 0 rfl rfl dJ5_length_8abf5_1 ?_
  exact z_iret C hRT hP hD hS (Nat.le_of_ble_eq_true rfl) (Nat.le_of_ble_eq_true rfl) rfl rfl dJ5_length_8abf5_4
set_option maxHeartbeats 4000000 in
set_option maxRecDepth 100000 in
theorem c_J4_length (l : Launch) {E : zEn} (hE : zEok E) (D : zG) (cy : Nat → ClassId) (b : Nat) (x : zSBt) (n : Nat) (sz : Nat) : Met l yJ4_length_8abf5 (zws yJ4_length_8abf5 cJ4_length_8abf5 1 (some .int)) { frames := 1, cells := 0, slots := 0, locals := 30 } (zPre E D cy [.ref b] (zSBw cy b x n) sz) (zQi D (zSBw cy b x n) (va_A (zSBw cy b x n) sz) (nI n)) 0 0 (va_A (zSBw cy b x n) sz) := by
  refine z_of (Qc := fun A => zQi D (zSBw cy b x n) A (nI n)) (by decide +kernel) (Nat.le_of_ble_eq_true rfl) rfl ?_
  intro pG eN sT mI below meth cO A ls C hRT hnm hA hP hD hS hE0 hl
  have hX := C.x
  have hB := C.b
  refine lv_aload_n hX hB dJ4_length_8abf5_0 rfl (lv_at hl 0 rfl) ?_
  refine z_goi (val := ()) (wc' := fun _ => zSBw cy b x n) (w' := fun _ => zSBw cy b x n) (r0 := fun _ => nI n) (wc := zSBw cy b x n) (isC := [0, 1]) (isR := []) (isO := [0, 1]) (z_runSU (isC := [0, 1]) (Qc := fun A => zQi D (zSBw cy b x n) A (nI n)) (c_J5_length l hE D cy b x n) hE C zu_J4_343 zm1044 (by decide) ⟨Nat.le_of_ble_eq_true rfl, Nat.le_of_ble_eq_true rfl⟩ hP hD hS hA hE0 rfl (by decide) 0 rfl rfl rfl hl.1 (Nat.le_of_ble_eq_true rfl) rfl dJ4_length_8abf5_1 ⟨Nat.le_of_ble_eq_true rfl, Nat.le_of_ble_eq_true rfl⟩) hP hD hS hA ⟨rfl, rfl, rfl, by decide, rfl, rfl, rfl⟩ (fun o H locs eo hP hD hS => ?_)
  exact z_iret C hRT hP hD hS (Nat.le_of_ble_eq_true rfl) (Nat.le_of_ble_eq_true rfl) rfl rfl dJ4_length_8abf5_4
set_option maxHeartbeats 4000000 in
set_option maxRecDepth 100000 in
theorem c_J4_charAt (l : Launch) {E : zEn} (hE : zEok E) (D : zG) (cy : Nat → ClassId) (hOB : zOutB E) (b : Nat) (x : zSBt) (t : Nat → Int32) (n i : Nat) (hi : i < n) (hx : zSB t n x) (sz : Nat) : Met l yJ4_charAt_5068e (zws yJ4_charAt_5068e cJ4_charAt_5068e 2 (some .char)) { frames := 3, cells := 0, slots := 0, locals := 150 } (zPre E D cy [.ref b, .int (nI i)] (zSBw cy b x n) sz) (zQi D (zSBw cy b x n) (va_A (zSBw cy b x n) sz) (t i)) 0 0 (va_A (zSBw cy b x n) sz) := by
  refine z_of (Qc := fun A => zQi D (zSBw cy b x n) A (t i)) (by decide +kernel) (Nat.le_of_ble_eq_true rfl) rfl ?_
  intro pG eN sT mI below meth cO A ls C hRT hnm hA hP hD hS hE0 hl
  have hX := C.x
  have hB := C.b
  have hk := zk127z (hx.2.2 i hi).2
  refine lv_aload_n hX hB dJ4_charAt_5068e_0 rfl (lv_at hl 0 rfl) ?_
  refine lv_iload_n hX hB dJ4_charAt_5068e_1 rfl (lv_at hl 1 rfl) ?_
  refine z_goi (val := ()) (wc' := fun _ => zSBw cy b x n) (w' := fun _ => zSBw cy b x n) (r0 := fun _ => t i) (wc := zSBw cy b x n) (isC := [0, 1]) (isR := []) (isO := [0, 1]) (z_runSU (isC := [0, 1]) (Qc := fun A => zQi D (zSBw cy b x n) A (t i)) (c_J5_charAt l hE D cy hOB b x t n i hi hx) hE C zu_J4_329 zm1044 (by decide) ⟨Nat.le_of_ble_eq_true rfl, Nat.le_of_ble_eq_true rfl⟩ hP hD hS hA hE0 rfl (by decide) 0 rfl rfl rfl hl.1 (Nat.le_of_ble_eq_true rfl) rfl dJ4_charAt_5068e_2 ⟨Nat.le_of_ble_eq_true rfl, Nat.le_of_ble_eq_true rfl⟩) hP hD hS hA ⟨rfl, rfl, rfl, by decide, rfl, rfl, rfl⟩ (fun o H locs eo hP hD hS => ?_)
  exact z_zret C hRT (by have h9 := pk_nc (t i); rw [hk.2] at h9; exact h9) hP hD hS (Nat.le_of_ble_eq_true rfl) (Nat.le_of_ble_eq_true rfl) rfl rfl dJ4_charAt_5068e_5
section ZSBR
variable {p : Program} {l : Launch} {e : Env} {R : Room} {s : State} {m : MethodId} {args : Array Value} {below : List Frame} {meth : Method} {c : Code} {H : Heap} {locs : List Loc} {cells slots : Nat} {Q : State → Prop}
variable {cc : ByteArray} {own : String} {nL : Nat} {D : zG} {cy : Nat → ClassId} {E : zEn} {A : Nat → Prop} {wr : va_W} {pc : Nat} {ls : Array Slot} {rest st0 : List Value}
/-- append(char) to a builder whose cells stand last -/
theorem z_appC {idx b n : Nat} {x : zSBt} {t : Nat → Int32} {ch : Int32} (hE : zEok E) (hOB : zOutB E) (C : zC p s m args meth c cc own nL D cy) (hs : zSiteV own idx yJ4_append_cf468 cJ4_append_cf468 2 (some (.object "java/lang/StringBuilder")) 1) (hR : 6 ≤ R.frames ∧ 241 ≤ R.locals) (hc : zle ch 127) (hx : zSB t n x) (hn : n ≤ 119) (hP : va_P D vwCl (wr ++ zSBw cy b x n) H) (hD : va_D A (wr ++ zSBw cy b x n)) (hS : va_S A s.heap H locs) (hA : ∀ q, s.heap.size ≤ q → A q) (hE0 : E A s s.heap) (hlen : ls.size = nL) (hcat : (rest.map fun v => v.category).sum ≤ 8) (hst : st0 = .int ch :: .ref b :: rest) (hdg : decode cc pc = .ok (.invokevirtual idx, 3)) (hf : cells + 1 ≤ R.cells ∧ slots + 300 ≤ R.slots)
    (kk : ∀ (x' : zSBt) (H1 : Heap) (locs1 : List Loc), zSB (upd t n ch) (n + 1) x' → va_P D vwCl (wr ++ zSBw cy b x' (n + 1)) H1 → va_D A (wr ++ zSBw cy b x' (n + 1)) → va_S A s.heap H1 locs1 → W p l e R s m args below meth c H1 locs1 (cells + 1) (slots + 300) Q (F0 m (pc + 3) ls (.ref b :: rest))) : W p l e R s m args below meth c H locs cells slots Q (F0 m pc ls st0) := by
  subst hst
  have hF := fun x' => zFr_sb wr cy b n (n + 1) x x'
  exact z_goqr (T := zSBt) x (Rl := zSB (upd t n ch) (n + 1)) (wc' := fun x' => zSBw cy b x' (n + 1)) (w' := fun x' => wr ++ zSBw cy b x' (n + 1)) (r0 := fun _ => some b) (wc := zSBw cy b x n) (z_runV (Qc := fun A => zQqr D (zSB (upd t n ch) (n + 1)) (fun x' => zSBw cy b x' (n + 1)) (fun _ => some b) A) (c_J4_appendC l hE D cy hOB b x t n ch hc hx hn) hE C hs hR hP hD hS hA hE0 (hF x).1 (hF x).2.2.2.2.2.2 wr.length (z_sbat wr cy b n x) rfl rfl rfl hlen hcat rfl hdg hf) hP hD hS hA hF kk
theorem z_appI {idx b n w : Nat} {x : zSBt} {t t' : Nat → Int32} (hE : zEok E) (hOB : zOutB E) (C : zC p s m args meth c cc own nL D cy) (hs : zSiteV own idx yJ4_append_bf812 cJ4_append_bf812 2 (some (.object "java/lang/StringBuilder")) 1) (hR : 6 ≤ R.frames ∧ 241 ≤ R.locals) (hw : w < 2 ^ 31) (hx : zSB t n x) (hn : n + sb_dg w ≤ 120) (ht1 : ∀ j, j < n → t' j = t j) (ht2 : ∀ i, i < sb_dg w → t' (n + sb_dg w - 1 - i) = nI (48 + w / 10 ^ i % 10)) (hP : va_P D vwCl (wr ++ zSBw cy b x n) H) (hD : va_D A (wr ++ zSBw cy b x n)) (hS : va_S A s.heap H locs) (hA : ∀ q, s.heap.size ≤ q → A q) (hE0 : E A s s.heap) (hlen : ls.size = nL) (hcat : (rest.map fun v => v.category).sum ≤ 8) {v : Int32} (hv : v = nI w) (hst : st0 = .int v :: .ref b :: rest) (hdg : decode cc pc = .ok (.invokevirtual idx, 3)) (hf : cells + 1 ≤ R.cells ∧ slots + 300 ≤ R.slots)
    (kk : ∀ (x' : zSBt) (H1 : Heap) (locs1 : List Loc), zSB t' (n + sb_dg w) x' → va_P D vwCl (wr ++ zSBw cy b x' (n + sb_dg w)) H1 → va_D A (wr ++ zSBw cy b x' (n + sb_dg w)) → va_S A s.heap H1 locs1 → W p l e R s m args below meth c H1 locs1 (cells + 1) (slots + 300) Q (F0 m (pc + 3) ls (.ref b :: rest))) : W p l e R s m args below meth c H locs cells slots Q (F0 m pc ls st0) := by
  subst hv
  subst hst
  have hF := fun x' => zFr_sb wr cy b n (n + sb_dg w) x x'
  exact z_goqr (T := zSBt) x (Rl := zSB t' (n + sb_dg w)) (wc' := fun x' => zSBw cy b x' (n + sb_dg w)) (w' := fun x' => wr ++ zSBw cy b x' (n + sb_dg w)) (r0 := fun _ => some b) (wc := zSBw cy b x n) (z_runV (Qc := fun A => zQqr D (zSB t' (n + sb_dg w)) (fun x' => zSBw cy b x' (n + sb_dg w)) (fun _ => some b) A) (c_J4_appendI l hE D cy hOB b x t t' n w hw hx hn ht1 ht2) hE C hs hR hP hD hS hA hE0 (hF x).1 (hF x).2.2.2.2.2.2 wr.length (z_sbat wr cy b n x) rfl rfl rfl hlen hcat rfl hdg hf) hP hD hS hA hF kk
theorem z_sbSet0 {idx b n : Nat} {x : zSBt} {t : Nat → Int32} (t' : Nat → Int32) (hE : zEok E) (hOB : zOutB E) (C : zC p s m args meth c cc own nL D cy) (hs : zSiteV own idx yJ4_setLength_d00df cJ4_setLength_d00df 2 none 1) (hR : 6 ≤ R.frames ∧ 241 ≤ R.locals) (hx : zSB t n x) (hP : va_P D vwCl (wr ++ zSBw cy b x n) H) (hD : va_D A (wr ++ zSBw cy b x n)) (hS : va_S A s.heap H locs) (hA : ∀ q, s.heap.size ≤ q → A q) (hE0 : E A s s.heap) (hlen : ls.size = nL) (hcat : (rest.map fun v => v.category).sum ≤ 8) (hst : st0 = .int 0 :: .ref b :: rest) (hdg : decode cc pc = .ok (.invokevirtual idx, 3)) (hf : cells + 1 ≤ R.cells ∧ slots + 300 ≤ R.slots)
    (kk : ∀ (x' : zSBt) (H1 : Heap) (locs1 : List Loc), zSB t' 0 x' → va_P D vwCl (wr ++ zSBw cy b x' 0) H1 → va_D A (wr ++ zSBw cy b x' 0) → va_S A s.heap H1 locs1 → W p l e R s m args below meth c H1 locs1 (cells + 1) (slots + 300) Q (F0 m (pc + 3) ls rest)) : W p l e R s m args below meth c H locs cells slots Q (F0 m pc ls st0) := by
  subst hst
  have hF := fun x' => zFr_sb wr cy b n 0 x x'
  exact z_govr (T := zSBt) x (Rl := zSB t' 0) (wc' := fun x' => zSBw cy b x' 0) (w' := fun x' => wr ++ zSBw cy b x' 0) (wc := zSBw cy b x n) (z_runV (Qc := fun A => zQvr D (zSB t' 0) (fun x' => zSBw cy b x' 0) A) (c_J4_setLength0 l hE D cy hOB b x t t' n hx) hE C hs hR hP hD hS hA hE0 (hF x).1 (hF x).2.2.2.2.2.2 wr.length (z_sbat wr cy b n x) rfl rfl rfl hlen hcat rfl hdg hf) hP hD hS hA hF kk
theorem z_sbLen {idx b n : Nat} {x : zSBt} (hE : zEok E) (C : zC p s m args meth c cc own nL D cy) (hs : zSiteV own idx yJ4_length_8abf5 cJ4_length_8abf5 1 (some .int) 0) (hR : 2 ≤ R.frames ∧ 50 ≤ R.locals) (hP : va_P D vwCl (wr ++ zSBw cy b x n) H) (hD : va_D A (wr ++ zSBw cy b x n)) (hS : va_S A s.heap H locs) (hA : ∀ q, s.heap.size ≤ q → A q) (hE0 : E A s s.heap) (hlen : ls.size = nL) (hcat : (rest.map fun v => v.category).sum ≤ 8) (hst : st0 = .ref b :: rest) (hdg : decode cc pc = .ok (.invokevirtual idx, 3)) (hf : cells + 0 ≤ R.cells ∧ slots + 0 ≤ R.slots)
    (kk : ∀ (H1 : Heap) (locs1 : List Loc), va_P D vwCl (wr ++ zSBw cy b x n) H1 → va_D A (wr ++ zSBw cy b x n) → va_S A s.heap H1 locs1 → W p l e R s m args below meth c H1 locs1 (cells + 0) (slots + 0) Q (F0 m (pc + 3) ls (.int (nI n) :: rest))) : W p l e R s m args below meth c H locs cells slots Q (F0 m pc ls st0) := by
  subst hst
  have hF := zFr_sb wr cy b n n x x
  exact z_goi (val := ()) (wc' := fun _ => zSBw cy b x n) (w' := fun _ => wr ++ zSBw cy b x n) (r0 := fun _ => nI n) (wc := zSBw cy b x n) (z_runV (Qc := fun A => zQi D (zSBw cy b x n) A (nI n)) (c_J4_length l hE D cy b x n) hE C hs hR hP hD hS hA hE0 hF.1 hF.2.2.2.2.2.2 wr.length (z_sbat wr cy b n x) rfl rfl rfl hlen hcat rfl hdg hf) hP hD hS hA hF (fun _ H1 locs1 _ => kk H1 locs1)
theorem z_sbChar {idx b n i : Nat} {x : zSBt} {t : Nat → Int32} (hi : i < n) (hx : zSB t n x) (hE : zEok E) (hOB : zOutB E) (C : zC p s m args meth c cc own nL D cy) (hs : zSiteV own idx yJ4_charAt_5068e cJ4_charAt_5068e 2 (some .char) 1) (hR : 4 ≤ R.frames ∧ 171 ≤ R.locals) (hP : va_P D vwCl (wr ++ zSBw cy b x n) H) (hD : va_D A (wr ++ zSBw cy b x n)) (hS : va_S A s.heap H locs) (hA : ∀ q, s.heap.size ≤ q → A q) (hE0 : E A s s.heap) (hlen : ls.size = nL) (hcat : (rest.map fun v => v.category).sum ≤ 8) (hst : st0 = .int (nI i) :: .ref b :: rest) (hdg : decode cc pc = .ok (.invokevirtual idx, 3)) (hf : cells + 0 ≤ R.cells ∧ slots + 0 ≤ R.slots)
    (kk : ∀ (H1 : Heap) (locs1 : List Loc), va_P D vwCl (wr ++ zSBw cy b x n) H1 → va_D A (wr ++ zSBw cy b x n) → va_S A s.heap H1 locs1 → W p l e R s m args below meth c H1 locs1 (cells + 0) (slots + 0) Q (F0 m (pc + 3) ls (.int (t i) :: rest))) : W p l e R s m args below meth c H locs cells slots Q (F0 m pc ls st0) := by
  subst hst
  have hF := zFr_sb wr cy b n n x x
  exact z_goi (val := ()) (wc' := fun _ => zSBw cy b x n) (w' := fun _ => wr ++ zSBw cy b x n) (r0 := fun _ => t i) (wc := zSBw cy b x n) (z_runV (Qc := fun A => zQi D (zSBw cy b x n) A (t i)) (c_J4_charAt l hE D cy hOB b x t n i hi hx) hE C hs hR hP hD hS hA hE0 hF.1 hF.2.2.2.2.2.2 wr.length (z_sbat wr cy b n x) rfl rfl rfl hlen hcat rfl hdg hf) hP hD hS hA hF (fun _ H1 locs1 _ => kk H1 locs1)
end ZSBR
