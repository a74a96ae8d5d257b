theorem zu_J5_100 : zSiteU RJ5 100 yJ5_ensureCapacityInternal_d00df cJ5_ensureCapacityInternal_d00df 3 none 1 := ⟨zw_ws zm1056, zm80, by decide +kernel, zm1052, zm1053, zm1055⟩
theorem zu_J5_104 : zSiteU RJ5 104 yJ5_newCapacity_0f7a4 cJ5_newCapacity_0f7a4 6 (some .int) 1 := ⟨zw_ws zm1061, zm80, by decide +kernel, zm1057, zm1058, zm1060⟩
theorem zu_J5_83 : zSiteU RJ5 83 yJ5_isLatin1_aae02 cJ5_isLatin1_aae02 1 (some .boolean) 0 := ⟨zw_ws zm1088, zm80, by decide +kernel, zm1084, zm1085, zm1087⟩
theorem zu_J4_333 : zSiteU RJ4 333 yJ5_setLength_d00df cJ5_setLength_d00df 2 none 1 := ⟨zw_ws zm1046, zm80, by decide +kernel, zm1042, zm1043, zm1045⟩
theorem zu_J4_343 : zSiteU RJ4 343 yJ5_length_8abf5 cJ5_length_8abf5 1 (some .int) 0 := ⟨zw_ws zm1207, zm80, by decide +kernel, zm1204, zm1205, zm1206⟩
theorem zu_J4_329 : zSiteU RJ4 329 yJ5_charAt_5068e cJ5_charAt_5068e 5 (some .char) 1 := ⟨zw_ws zm1248, zm80, by decide +kernel, zm1245, zm1246, zm1247⟩
theorem zu_J4_50 : zSiteU RJ4 50 yJ5_append_3fe6f cJ5_append_3fe6f 2 (some (.object "java/lang/AbstractStringBuilder")) 1 := ⟨zw_ws zm1118, zm80, by decide +kernel, zm1115, zm1116, zm1117⟩
theorem zu_J4_53 : zSiteU RJ4 53 yJ5_append_c97b9 cJ5_append_c97b9 4 (some (.object "java/lang/AbstractStringBuilder")) 1 := ⟨zw_ws zm1173, zm80, by decide +kernel, zm1170, zm1171, zm1172⟩
abbrev zSBt : Type := Nat × Nat × (Nat → Int32) × Int32
/-- a StringBuilder's two cells: (address of its bytes, capacity, bytes, maybeLatin1), n letters -/
def zSBw (cy : Nat → ClassId) (b : Nat) (x : zSBt) (n : Nat) : va_W := [(b, .inr (1, [.ref x.1, .int 0, .int x.2.2.2, .int (nI n)])), (x.1, .inl (cy 2, x.2.1, .inl x.2.2.1))]
def zSBok (x : zSBt) : Prop := 16 ≤ x.2.1 ∧ x.2.1 ≤ 300 ∧ (x.2.2.2 = 0 ∨ x.2.2.2 = 1) ∧ sb_Fit x.2.2.1
/-- it holds the n letters t -/
def zSB (t : Nat → Int32) (n : Nat) (x : zSBt) : Prop := zSBok x ∧ n ≤ x.2.1 ∧ ∀ j, j < n → x.2.2.1 j = t j ∧ zle (t j) 127
def zEns (q : Nat) (x x' : zSBt) : Prop := zSBok x' ∧ q ≤ x'.2.1 ∧ x'.2.2.2 = x.2.2.2 ∧ ∀ j, j < x.2.1 → x'.2.2.1 j = x.2.2.1 j
theorem zb8 : ∀ k, k < 128 → (nI k).toInt8.toInt32 = nI k := by decide +kernel
theorem zb8z {x : Int32} (h : zle x 127) : x.toInt8.toInt32 = x := by
  have h1 : x = nI (zn x) := h.1
  rw [h1]; exact zb8 _ (by have := h.2; omega)
theorem zfitb8 {x : Int32} (h : zle x 127) : fits .byte (.int x) = true := by
  have := pk_fb x
  rw [zb8z h] at this; exact this
theorem n_stringSize {w : Nat} (hw : w < 2 ^ 31) : n_J6_stringSize w = nI (sb_dg w) := by
  have c : ∀ k : Nat, k < 2 ^ 31 → (-(nI w) ≤ -(nI k) ↔ k ≤ w) := fun k hk => sb_nle hw hk
  have h1 := c 10 (by decide); have h2 := c 100 (by decide); have h3 := c 1000 (by decide); have h4 := c 10000 (by decide); have h5 := c 100000 (by decide)
  have h6 := c 1000000 (by decide); have h7 := c 10000000 (by decide); have h8 := c 100000000 (by decide); have h9 := c 1000000000 (by decide)
  have e : ∀ i, sb_dg w = i → nI (sb_dg w) = nI i := fun i h => by rw [h]
  unfold n_J6_stringSize
  split
  · rename_i g; have g1 := h1.mp g
    split
    · rename_i g; have g2 := h2.mp g
      split
      · rename_i g; have g3 := h3.mp g
        split
        · rename_i g; have g4 := h4.mp g
          split
          · rename_i g; have g5 := h5.mp g
            split
            · rename_i g; have g6 := h6.mp g
              split
              · rename_i g; have g7 := h7.mp g
                split
                · rename_i g; have g8 := h8.mp g
                  split
                  · rename_i g; have g9 := h9.mp g
                    rw [e 10 (by unfold sb_dg; (repeat' split) <;> omega)]; rfl
                  · rename_i g; have g9 : ¬ 1000000000 ≤ w := fun z => g (h9.mpr z)
                    rw [e 9 (by unfold sb_dg; (repeat' split) <;> omega)]; rfl
                · rename_i g; have g8 : ¬ 100000000 ≤ w := fun z => g (h8.mpr z)
                  rw [e 8 (by unfold sb_dg; (repeat' split) <;> omega)]; rfl
              · rename_i g; have g7 : ¬ 10000000 ≤ w := fun z => g (h7.mpr z)
                rw [e 7 (by unfold sb_dg; (repeat' split) <;> omega)]; rfl
            · rename_i g; have g6 : ¬ 1000000 ≤ w := fun z => g (h6.mpr z)
              rw [e 6 (by unfold sb_dg; (repeat' split) <;> omega)]; rfl
          · rename_i g; have g5 : ¬ 100000 ≤ w := fun z => g (h5.mpr z)
            rw [e 5 (by unfold sb_dg; (repeat' split) <;> omega)]; rfl
        · rename_i g; have g4 : ¬ 10000 ≤ w := fun z => g (h4.mpr z)
          rw [e 4 (by unfold sb_dg; (repeat' split) <;> omega)]; rfl
      · rename_i g; have g3 : ¬ 1000 ≤ w := fun z => g (h3.mpr z)
        rw [e 3 (by unfold sb_dg; (repeat' split) <;> omega)]; rfl
    · rename_i g; have g2 : ¬ 100 ≤ w := fun z => g (h2.mpr z)
      rw [e 2 (by unfold sb_dg; (repeat' split) <;> omega)]; rfl
  · rename_i g; have g1 : ¬ 10 ≤ w := fun z => g (h1.mpr z)
    rw [e 1 (by unfold sb_dg; (repeat' split) <;> omega)]; rfl
set_option maxHeartbeats 4000000 in
set_option maxRecDepth 100000 in
theorem c_J7_copyOf (l : Launch) {E : zEn} (hE : zEok E) (D : zG) (cy : Nat → ClassId) (a m : Nat) (f : Nat → Int32) (q : Nat) (hmq : m < q) (hq : q ≤ 300) (hf : sb_Fit f) (sz : Nat) : Met l yJ7_copyOf_9075b (zws yJ7_copyOf_9075b cJ7_copyOf_9075b 3 (some (.array .byte))) { frames := 1, cells := 1, slots := 300, locals := 60 } (zPre E D cy [.ref a, .int (nI q)] [(a, .inl (cy 2, m, .inl f))] sz) (zQqr D (fun _ : Nat => True) (fun a' => [(a, .inl (cy 2, m, .inl f)), (a', .inl (cy 2, q, .inl (va_cpy f (fun _ => 0) 0 0 m)))]) (fun a' => some a') (va_A [(a, .inl (cy 2, m, .inl f))] sz)) 1 300 (va_A [(a, .inl (cy 2, m, .inl f))] sz) := by
  refine z_of (Qc := fun A => zQqr D (fun _ : Nat => True) (fun a' => [(a, .inl (cy 2, m, .inl f)), (a', .inl (cy 2, q, .inl (va_cpy f (fun _ => 0) 0 0 m)))]) (fun a' => some a') A) (by decide +kernel) (Nat.le_of_ble_eq_true rfl) rfl ?_
  intro pG eN sT mI below meth cO A ls C hRT hnm hA hP hD hS hE0 hl
  have hX := C.x
  have hB := C.b
  refine lv_iload_n hX hB dJ7_copyOf_9075b_0 rfl (lv_at hl 1 rfl) ?_
  refine lv_aload_n hX hB dJ7_copyOf_9075b_1 rfl (lv_at hl 0 rfl) ?_
  refine z_alen C hP 0 2 rfl rfl (v := nI m) rfl dJ7_copyOf_9075b_2 ?_
  refine lv_icmp_ne (tgt := 14) hX hB dJ7_copyOf_9075b_3 (by decide) (fun _ => ?_) (fun c => absurd c (zi_ne (zi_i q) (zi_i m) (by omega) (by omega) (by omega)))
  refine lv_iload_n hX hB dJ7_copyOf_9075b_14 rfl (lv_at hl 1 rfl) ?_
  refine z_newB C hP hD hS hA q (nI_pos (by omega)) (nI_clamp (by omega)) (by omega) ⟨(Nat.le_of_ble_eq_true rfl), (by show 0 + q ≤ 300; omega)⟩ dJ7_copyOf_9075b_15 (fun a' H hP hD hS => ?_)
  refine lv_astore_n (lv' := [(2, .ref a'), (0, .ref a), (1, .int (nI q))]) hX hB dJ7_copyOf_9075b_17 rfl hl (by decide) rfl (fun ls hl => ?_)
  refine lv_aload_n hX hB dJ7_copyOf_9075b_18 rfl (lv_at hl 1 rfl) ?_
  refine lv_iconst (v := 0) hX hB dJ7_copyOf_9075b_19 (by decide) ?_
  refine lv_aload_n hX hB dJ7_copyOf_9075b_20 rfl (lv_at hl 0 rfl) ?_
  refine lv_iconst (v := 0) hX hB dJ7_copyOf_9075b_21 (by decide) ?_
  refine lv_aload_n hX hB dJ7_copyOf_9075b_22 rfl (lv_at hl 1 rfl) ?_
  refine z_alen C hP 0 2 rfl rfl (v := nI m) rfl dJ7_copyOf_9075b_23 ?_
  refine lv_iload_n hX hB dJ7_copyOf_9075b_24 rfl (lv_at hl 2 rfl) ?_
  refine va_mmin hX hB (C.2.2.1.trans hl.1.symm) C.o (C.ts _ zm1082) (C.ts _ zm198) (C.ts _ zm199) (C.ts _ zm200) (Nat.le_of_ble_eq_true rfl) (Nat.le_of_ble_eq_true rfl) (Nat.le_of_ble_eq_true rfl) (by show 0 + q ≤ 300; omega) dJ7_copyOf_9075b_25 ?_
  rw [if_neg (show ¬ nI q < nI m from nI_nlt (by omega) (by omega))]
  refine z_copyB C hl.1 zm1083 hP hD hS 0 1 rfl rfl m (nI_pos (by omega)) (nI_clamp (by omega)) (Nat.le_refl _) (by omega) hf ⟨Nat.le_of_ble_eq_true rfl, Nat.le_of_ble_eq_true rfl⟩ (w' := [(a, .inl (cy 2, m, .inl f)), (a', .inl (cy 2, q, .inl (va_cpy f (fun _ => 0) 0 0 m)))]) rfl dJ7_copyOf_9075b_28 (fun H locs hP hD hS => ?_)
  refine lv_aload_n hX hB dJ7_copyOf_9075b_31 rfl (lv_at hl 0 rfl) ?_
  exact z_aretr a' trivial C hRT (Or.inr ⟨_, rfl⟩) hP hD hS (Nat.le_of_ble_eq_true rfl) (by show 0 + q ≤ 300; omega) rfl rfl dJ7_copyOf_9075b_32
set_option maxHeartbeats 4000000 in
set_option maxRecDepth 100000 in
theorem c_J5_ensure (l : Launch) {E : zEn} (hE : zEok E) (D : zG) (cy : Nat → ClassId) (hOB : zOutB E) (b : Nat) (x : zSBt) (n q : Nat) (hx : zSBok x) (hq : q ≤ 120) (sz : Nat) : Met l yJ5_ensureCapacityInternal_d00df (zws yJ5_ensureCapacityInternal_d00df cJ5_ensureCapacityInternal_d00df 3 none) { frames := 3, cells := 1, slots := 300, locals := 120 } (zPre E D cy [.ref b, .int (nI q)] (zSBw cy b x n) sz) (zQvr D (zEns q x) (fun x' => zSBw cy b x' n) (va_A (zSBw cy b x n) sz)) 1 300 (va_A (zSBw cy b x n) sz) := by
  obtain ⟨a, m, f, ml⟩ := x
  have h16 : 16 ≤ m := hx.1
  have h300 : m ≤ 300 := hx.2.1
  have hf : sb_Fit f := hx.2.2.2
  refine z_of (Qc := fun A => zQvr D (zEns q (a, m, f, ml)) (fun x' => zSBw cy b x' n) A) (by decide +kernel) (Nat.le_of_ble_eq_true rfl) rfl ?_
  intro pG eN sT mI below meth cO A ls C hRT hnm hA hP hD hS hE0 hl
  have hX := C.x
  have hB := C.b
  refine lv_aload_n hX hB dJ5_ensureCapacityInternal_d00df_0 rfl (lv_at hl 0 rfl) ?_
  refine fg_J5_15 C hP 0 rfl rfl dJ5_ensureCapacityInternal_d00df_1 ?_
  refine z_alen C hP 1 2 rfl rfl (v := nI m) rfl dJ5_ensureCapacityInternal_d00df_4 ?_
  refine lv_aload_n hX hB dJ5_ensureCapacityInternal_d00df_5 rfl (lv_at hl 0 rfl) ?_
  refine fg_J5_22 C hP 0 rfl rfl dJ5_ensureCapacityInternal_d00df_6 ?_
  refine lv_ishr hX hB dJ5_ensureCapacityInternal_d00df_9 ?_
  rw [sb_shr0]
  refine lv_istore_n (lv' := [(2, .int (nI m)), (0, .ref b), (1, .int (nI q))]) hX hB dJ5_ensureCapacityInternal_d00df_10 rfl hl (by decide) rfl (fun ls hl => ?_)
  refine lv_iload_n hX hB dJ5_ensureCapacityInternal_d00df_11 rfl (lv_at hl 2 rfl) ?_
  refine lv_iload_n hX hB dJ5_ensureCapacityInternal_d00df_12 rfl (lv_at hl 0 rfl) ?_
  refine lv_isub hX hB dJ5_ensureCapacityInternal_d00df_13 ?_
  have e1 : (nI q - nI m).toInt = (q : Int) - m := pk_sub_toInt (by omega) (by omega)
  have e2 : nI q - nI m ≤ 0 ↔ q ≤ m := by rw [Int32.le_iff_toInt_le, e1, Int32.toInt_zero]; omega
  refine lv_if_le (tgt := 38) hX hB dJ5_ensureCapacityInternal_d00df_14 (by decide) (fun c1 => ?_) (fun c1 => ?_)
  · have hqm := e2.mp c1
    exact z_vretr (a, m, f, ml) ⟨hx, hqm, rfl, fun _ _ => rfl⟩ C hRT hP hD hS (Nat.le_of_ble_eq_true rfl) (Nat.le_of_ble_eq_true rfl) rfl dJ5_ensureCapacityInternal_d00df_38
  · have hmq : m < q := Nat.not_le.mp (fun z => c1 (e2.mpr z))
    refine lv_aload_n hX hB dJ5_ensureCapacityInternal_d00df_17 rfl (lv_at hl 1 rfl) ?_
    refine lv_aload_n hX hB dJ5_ensureCapacityInternal_d00df_18 rfl (lv_at hl 1 rfl) ?_
    refine fg_J5_15 C hP 0 rfl rfl dJ5_ensureCapacityInternal_d00df_19 ?_
    refine lv_aload_n hX hB dJ5_ensureCapacityInternal_d00df_22 rfl (lv_at hl 1 rfl) ?_
    refine lv_iload_n hX hB dJ5_ensureCapacityInternal_d00df_23 rfl (lv_at hl 2 rfl) ?_
    refine z_goi (val := n_J5_newCapacity m q) (wc' := q_J5_newCapacity cy b a m f ml n) (w' := fun _ => zSBw cy b (a, m, f, ml) n) (r0 := fun o => o) (wc := zSBw cy b (a, m, f, ml) n) (isC := [0, 1]) (isR := []) (isO := [0, 1]) (z_runU (isC := [0, 1]) (K := RJ4) (Qc := fun A => zQi D (q_J5_newCapacity cy b a m f ml n (n_J5_newCapacity m q)) A (n_J5_newCapacity m q)) (c_J5_newCapacity l hE D cy b a m f ml n q (by omega) (by omega) hmq) hE C zu_J5_104 (va_tabs rfl rfl (hOB _ _ _ hE0).2.2.2.2.2) ⟨Nat.le_of_ble_eq_true rfl, Nat.le_of_ble_eq_true rfl⟩ hP hD hS hA hE0 rfl (by decide) 0 rfl rfl rfl rfl hl.1 (Nat.le_of_ble_eq_true rfl) rfl dJ5_ensureCapacityInternal_d00df_24 ⟨Nat.le_of_ble_eq_true rfl, Nat.le_of_ble_eq_true rfl⟩) hP hD hS hA ⟨rfl, rfl, rfl, by decide, rfl, rfl, rfl⟩ (fun o H locs eo hP hD hS => ?_)
    have eo2 : o = nI (m + max (q - m) (m + 2)) := eo
    subst eo2
    have hcap : q ≤ m + max (q - m) (m + 2) ∧ m + max (q - m) (m + 2) ≤ 300 ∧ m < m + max (q - m) (m + 2) := by omega
    generalize m + max (q - m) (m + 2) = cap at hcap
    refine lv_aload_n hX hB dJ5_ensureCapacityInternal_d00df_27 rfl (lv_at hl 1 rfl) ?_
    refine fg_J5_22 C hP 0 rfl rfl dJ5_ensureCapacityInternal_d00df_28 ?_
    refine lv_ishl hX hB dJ5_ensureCapacityInternal_d00df_31 ?_
    rw [sb_shl0]
    refine z_goqr (T := Nat) 0 (Rl := fun _ => True) (wc' := fun a' => [(a, .inl (cy 2, m, .inl f)), (a', .inl (cy 2, cap, .inl (va_cpy f (fun _ => 0) 0 0 m)))]) (w' := fun a' => [(b, .inr (1, [.ref a, .int 0, .int ml, .int (nI n)])), (a, .inl (cy 2, m, .inl f)), (a', .inl (cy 2, cap, .inl (va_cpy f (fun _ => 0) 0 0 m)))]) (r0 := fun a' => some a') (wc := [(a, .inl (cy 2, m, .inl f))]) (isC := [1]) (isR := [0]) (isO := [0, 1, 2]) (z_runS (isC := [1]) (Qc := fun A => zQqr D (fun _ : Nat => True) (fun a' => [(a, .inl (cy 2, m, .inl f)), (a', .inl (cy 2, cap, .inl (va_cpy f (fun _ => 0) 0 0 m)))]) (fun a' => some a') A) (c_J7_copyOf l hE D cy a m f cap hcap.2.2 hcap.2.1 hf) hE C zs_J5_108 ⟨Nat.le_of_ble_eq_true rfl, Nat.le_of_ble_eq_true rfl⟩ hP hD hS hA hE0 rfl (by decide) rfl hl.1 (Nat.le_of_ble_eq_true rfl) rfl dJ5_ensureCapacityInternal_d00df_32 ⟨Nat.le_of_ble_eq_true rfl, Nat.le_of_ble_eq_true rfl⟩) hP hD hS hA (fun _ => ⟨rfl, rfl, rfl, by decide, rfl, rfl, rfl⟩) (fun a' H locs _ hP hD hS => ?_)
    refine fp_J5_15 C hP hD hS 0 rfl rfl rfl (Nat.le_of_ble_eq_true rfl) (w' := [(b, .inr (1, [.ref a', .int 0, .int ml, .int (nI n)])), (a, .inl (cy 2, m, .inl f)), (a', .inl (cy 2, cap, .inl (va_cpy f (fun _ => 0) 0 0 m)))]) rfl dJ5_ensureCapacityInternal_d00df_35 (fun H locs hP hD hS => ?_)
    exact z_vretr (wv := [(b, .inr (1, [.ref a', .int 0, .int ml, .int (nI n)])), (a', .inl (cy 2, cap, .inl (va_cpy f (fun _ => 0) 0 0 m)))]) (a', cap, va_cpy f (fun _ => 0) 0 0 m, ml) ⟨⟨(by show 16 ≤ cap; omega), hcap.2.1, hx.2.2.1, sb_fitC hf sb_fit0⟩, hcap.1, rfl, fun j hj => (show va_cpy f (fun _ => 0) 0 0 m j = f j from sb_cpy0 hj)⟩ C hRT (zsub hP [0, 2] rfl) (hD.sub [0, 2] (by decide) rfl) hS (Nat.le_of_ble_eq_true rfl) (Nat.le_of_ble_eq_true rfl) rfl dJ5_ensureCapacityInternal_d00df_38
set_option maxHeartbeats 4000000 in
set_option maxRecDepth 100000 in
theorem c_J5_appendC (l : Launch) {E : zEn} (hE : zEok E) (D : zG) (cy : Nat → ClassId) (hOB : zOutB E) (b : Nat) (x : zSBt) (t : Nat → Int32) (n : Nat) (ch : Int32) (hc : zle ch 127) (hx : zSB t n x) (hn : n ≤ 119) (sz : Nat) : Met l yJ5_append_3fe6f (zws yJ5_append_3fe6f cJ5_append_3fe6f 2 (some (.object "java/lang/AbstractStringBuilder"))) { frames := 4, cells := 1, slots := 300, locals := 180 } (zPre E D cy [.ref b, .int ch] (zSBw cy b x n) sz) (zQqr D (zSB (upd t n ch) (n + 1)) (fun x' => zSBw cy b x' (n + 1)) (fun _ => some b) (va_A (zSBw cy b x n) sz)) 1 300 (va_A (zSBw cy b x n) sz) := by
  refine z_of (Qc := fun A => zQqr D (zSB (upd t n ch) (n + 1)) (fun x' => zSBw cy b x' (n + 1)) (fun _ => some b) A) (by decide +kernel) (Nat.le_of_ble_eq_true rfl) rfl ?_
  intro pG eN sT mI below meth cO A ls C hRT hnm hA hP hD hS hE0 hl
  have hX := C.x
  have hB := C.b
  refine lv_aload_n hX hB dJ5_append_3fe6f_0 rfl (lv_at hl 0 rfl) ?_
  refine lv_aload_n hX hB dJ5_append_3fe6f_1 rfl (lv_at hl 0 rfl) ?_
  refine fg_J5_79 C hP 0 rfl rfl dJ5_append_3fe6f_2 ?_
  refine lv_iconst (v := 1) hX hB dJ5_append_3fe6f_5 (by decide) ?_
  refine z_iadd (v := nI (n + 1)) C dJ5_append_3fe6f_6 (zi_add (zi_i n) (zlit 1)) ?_
  refine z_govr (T := zSBt) x (Rl := zEns (n + 1) x) (wc' := fun x' => zSBw cy b x' n) (w' := fun x' => zSBw cy b x' n) (wc := zSBw cy b x n) (isC := [0, 1]) (isR := []) (isO := [0, 1]) (z_runU (isC := [0, 1]) (K := RJ4) (Qc := fun A => zQvr D (zEns (n + 1) x) (fun x' => zSBw cy b x' n) A) (c_J5_ensure l hE D cy hOB b x n (n + 1) hx.1 (by omega)) hE C zu_J5_100 (va_tabs rfl rfl (hOB _ _ _ hE0).2.2.2.2.1) ⟨Nat.le_of_ble_eq_true rfl, Nat.le_of_ble_eq_true rfl⟩ hP hD hS hA hE0 rfl (by decide) 0 rfl rfl rfl rfl hl.1 (Nat.le_of_ble_eq_true rfl) rfl dJ5_append_3fe6f_7 ⟨Nat.le_of_ble_eq_true rfl, Nat.le_of_ble_eq_true rfl⟩) hP hD hS hA (fun _ => ⟨rfl, rfl, rfl, by decide, rfl, rfl, rfl⟩) (fun x' H locs hx' hP hD hS => ?_)
  obtain ⟨a, m, f, ml⟩ := x'
  have hm : n + 1 ≤ m := hx'.2.1
  have h300 : m ≤ 300 := hx'.1.2.1
  refine lv_aload_n hX hB dJ5_append_3fe6f_10 rfl (lv_at hl 0 rfl) ?_
  refine z_goi (val := ()) (wc' := q_J5_isLatin1 cy b a m f ml n) (w' := fun _ => zSBw cy b (a, m, f, ml) n) (r0 := fun _ => 1) (wc := zSBw cy b (a, m, f, ml) n) (isC := [0, 1]) (isR := []) (isO := [0, 1]) (z_runU (isC := [0, 1]) (K := RJ4) (Qc := fun A => zQi D (q_J5_isLatin1 cy b a m f ml n ()) A 1) (c_J5_isLatin1 l hE D cy hOB b a m f ml n) hE C zu_J5_83 (C.ts _ zm1086) ⟨Nat.le_of_ble_eq_true rfl, Nat.le_of_ble_eq_true rfl⟩ hP hD hS hA hE0 rfl (by decide) 0 rfl rfl rfl rfl hl.1 (Nat.le_of_ble_eq_true rfl) rfl dJ5_append_3fe6f_11 ⟨Nat.le_of_ble_eq_true rfl, Nat.le_of_ble_eq_true rfl⟩) hP hD hS hA ⟨rfl, rfl, rfl, by decide, rfl, rfl, rfl⟩ (fun o H locs eo hP hD hS => ?_)
  refine lv_if_eq (tgt := 45) hX hB dJ5_append_3fe6f_14 (by decide) (fun c => absurd c (by decide)) (fun _ => ?_)
  refine lv_iload_n hX hB dJ5_append_3fe6f_17 rfl (lv_at hl 1 rfl) ?_
  refine z_callSi (isC := []) (isR := [0, 1]) (isO := [0, 1]) () q_J1_canEncodeC (fun _ => zSBw cy b (a, m, f, ml) n) (fun _ => 1) (c_J1_canEncodeC l hE D cy ch (zn ch) hc.1 (Nat.le_trans hc.2 (by decide))) hE C zs_J5_191 ⟨Nat.le_of_ble_eq_true rfl, Nat.le_of_ble_eq_true rfl⟩ hP hD hS hA hE0 ⟨rfl, rfl, rfl, by decide, rfl, rfl, rfl⟩ rfl hl.1 (Nat.le_of_ble_eq_true rfl) rfl dJ5_append_3fe6f_18 ⟨Nat.le_of_ble_eq_true rfl, Nat.le_of_ble_eq_true rfl⟩ (fun o H locs eo hP hD hS => ?_)
  refine lv_if_eq (tgt := 45) hX hB dJ5_append_3fe6f_21 (by decide) (fun c => absurd c (by decide)) (fun _ => ?_)
  refine lv_aload_n hX hB dJ5_append_3fe6f_24 rfl (lv_at hl 0 rfl) ?_
  refine fg_J5_15 C hP 0 rfl rfl dJ5_append_3fe6f_25 ?_
  refine lv_aload_n hX hB dJ5_append_3fe6f_28 rfl (lv_at hl 0 rfl) ?_
  refine lv_dup hX hB dJ5_append_3fe6f_29 rfl ?_
  refine fg_J5_79 C hP 0 rfl rfl dJ5_append_3fe6f_30 ?_
  refine lv_dup_x1 hX hB dJ5_append_3fe6f_33 rfl rfl ?_
  refine lv_iconst (v := 1) hX hB dJ5_append_3fe6f_34 (by decide) ?_
  refine z_iadd (v := nI (n + 1)) C dJ5_append_3fe6f_35 (zi_add (zi_i n) (zlit 1)) ?_
  refine fp_J5_79 C hP hD hS 0 rfl rfl rfl (Nat.le_of_ble_eq_true rfl) (w' := zSBw cy b (a, m, f, ml) (n + 1)) rfl dJ5_append_3fe6f_36 (fun H locs hP hD hS => ?_)
  refine lv_iload_n hX hB dJ5_append_3fe6f_39 rfl (lv_at hl 1 rfl) ?_
  refine lv_i2b (v := ch) hX hB dJ5_append_3fe6f_40 (zb8z hc) ?_
  refine z_bast C hP hD hS 1 rfl (k := n) (zi_i n) (show n < m from by omega) (show m < 2 ^ 31 from by omega) (y := ch) (by rw [vp_nar_byte]; exact zb8z hc) (w' := zSBw cy b (a, m, upd f n ch, ml) (n + 1)) rfl dJ5_append_3fe6f_41 (fun H locs hP hD hS => ?_)
  refine lv_goto (tgt := 75) hX hB dJ5_append_3fe6f_42 (by decide) ?_
  refine lv_aload_n hX hB dJ5_append_3fe6f_75 rfl (lv_at hl 0 rfl) ?_
  refine z_aretr (a, m, upd f n ch, ml) ⟨⟨hx'.1.1, h300, ?_, sb_fitU hx'.1.2.2.2 (zfitb8 hc)⟩, hm, ?_⟩ C hRT (Or.inl ⟨_, rfl⟩) hP hD hS (Nat.le_of_ble_eq_true rfl) (Nat.le_of_ble_eq_true rfl) rfl rfl dJ5_append_3fe6f_76
  · show ml = 0 ∨ ml = 1
    exact hx'.1.2.2.1
  · intro j hj
    show upd f n ch j = upd t n ch j ∧ zle (upd t n ch j) 127
    by_cases h : j = n
    · subst h; rw [pk_us, pk_us]; exact ⟨rfl, hc⟩
    · rw [pk_un h, pk_un h]
      obtain ⟨g1, g2⟩ := hx.2.2 j (by omega)
      exact ⟨(hx'.2.2.2 j (by have := hx.2.1; omega)).trans g1, g2⟩
def zDig (w p : Nat) (f f' : Nat → Int32) : Prop := (sb_Fit f → sb_Fit f') ∧ (∀ j, j < p - sb_dg w ∨ p ≤ j → f' j = f j) ∧ ∀ i, i < sb_dg w → f' (p - 1 - i) = nI (48 + w / 10 ^ i % 10)
set_option maxHeartbeats 8000000 in
set_option maxRecDepth 100000 in
theorem c_J6_getChars (l : Launch) {E : zEn} (hE : zEok E) (D : zG) (cy : Nat → ClassId) (hOB : zOutB E) (a m : Nat) (f : Nat → Int32) (w0 p0 : Nat) (hw0 : w0 < 2 ^ 31) (hp0 : sb_dg w0 ≤ p0) (hpm : p0 ≤ m) (hm : m ≤ 300) (sz : Nat) : Met l yJ6_getChars_ba4f3 (zws yJ6_getChars_ba4f3 cJ6_getChars_ba4f3 7 (some .int)) { frames := 0, cells := 0, slots := 0, locals := 0 } (zPre E D cy [.int (nI w0), .int (nI p0), .ref a] [(a, .inl (cy 2, m, .inl f))] sz) (zQir D (zDig w0 p0 f) (fun f' => [(a, .inl (cy 2, m, .inl f'))]) (fun _ => nI (p0 - sb_dg w0)) (va_A [(a, .inl (cy 2, m, .inl f))] sz)) 0 0 (va_A [(a, .inl (cy 2, m, .inl f))] sz) := by
  refine z_of (Qc := fun A => zQir D (zDig w0 p0 f) (fun f' => [(a, .inl (cy 2, m, .inl f'))]) (fun _ => nI (p0 - sb_dg w0)) A) (by decide +kernel) (Nat.le_of_ble_eq_true rfl) rfl ?_
  intro pG eN sT mI below meth cO A ls C hRT hnm hA hP hD hS hE0 hl
  have hX := C.x
  have hB := C.b
  obtain ⟨_, ⟨t1, hZ1, hT1⟩, ⟨t2, hZ2, hT2⟩, _, _, _⟩ := hOB _ _ _ hE0
  refine lv_iload_n hX hB dJ6_getChars_ba4f3_0 rfl (lv_at hl 1 rfl) ?_
  refine lv_istore (lv' := [(5, .int (nI p0)), (0, .int (nI w0)), (1, .int (nI p0)), (2, .ref a)]) hX hB dJ6_getChars_ba4f3_1 hl (by decide) rfl (fun ls hl => ?_)
  refine lv_iload_n hX hB dJ6_getChars_ba4f3_3 rfl (lv_at hl 1 rfl) ?_
  refine lv_if_ge (tgt := 11) hX hB dJ6_getChars_ba4f3_4 (by decide) (fun _ => ?_) (fun c => absurd (nI_pos' hw0) c)
  refine lv_iconst (v := 0) hX hB dJ6_getChars_ba4f3_11 (by decide) ?_
  refine lv_istore (lv' := [(6, .int 0), (5, .int (nI p0)), (0, .int (nI w0)), (1, .int (nI p0)), (2, .ref a)]) hX hB dJ6_getChars_ba4f3_12 hl (by decide) rfl (fun ls hl => ?_)
  refine lv_iload hX hB dJ6_getChars_ba4f3_14 (lv_at hl 0 rfl) ?_
  refine lv_if_ne (tgt := 22) hX hB dJ6_getChars_ba4f3_16 (by decide) (fun c => absurd rfl c) (fun _ => ?_)
  refine lv_iload_n hX hB dJ6_getChars_ba4f3_19 rfl (lv_at hl 2 rfl) ?_
  refine lv_ineg hX hB dJ6_getChars_ba4f3_20 ?_
  refine lv_istore_n (lv' := [(0, .int (-(nI w0))), (6, .int 0), (5, .int (nI p0)), (2, .ref a)]) hX hB dJ6_getChars_ba4f3_21 rfl (lv_sub hl [2, 0, 1, 4] rfl) (by decide) rfl (fun ls hl => ?_)
  -- the loop
  have loop : ∀ (fu w p : Nat) (g : Nat → Int32), w < fu → w < 2 ^ 31 → p - sb_dg w = p0 - sb_dg w0 → sb_dg w ≤ p → p ≤ m → (∀ f', zDig w p g f' → zDig w0 p0 f f') → ∀ (H : Heap) (locs : List Loc), va_P D vwCl [(a, .inl (cy 2, m, .inl g))] H → va_D A [(a, .inl (cy 2, m, .inl g))] → va_S A sT.heap H locs → ∀ (ls : Array Slot), lv_has ls 7 [(0, .int (-(nI w))), (6, .int 0), (5, .int (nI p)), (2, .ref a)] → W pG l eN { frames := 0, cells := 0, slots := 0, locals := 0 } sT mI ([.int (nI w0), .int (nI p0), .ref a] : List Value).toArray below meth cO H locs 0 0 (MQ below (zQir D (zDig w0 p0 f) (fun f' => [(a, .inl (cy 2, m, .inl f'))]) (fun _ => nI (p0 - sb_dg w0)) A) ([.int (nI w0), .int (nI p0), .ref a] : List Value).toArray sT 0 0 A) (F0 mI 22 ls []) := by
    intro fu
    induction fu with
    | zero => intro w p g h; omega
    | succ fu ih =>
      intro w p g hwf hw hpp hp1 hp2 hz H locs hP hD hS ls hl
      have hd1 := (sb_dg_in w).1
      refine lv_iload_n hX hB dJ6_getChars_ba4f3_22 rfl (lv_at hl 0 rfl) ?_
      refine lv_bipush (v := -100) hX hB dJ6_getChars_ba4f3_23 (by decide) ?_
      refine lv_icmp_gt (tgt := 72) hX hB dJ6_getChars_ba4f3_25 (by decide) (fun c1 => ?_) (fun c1 => ?_)
      · have h100 : w < 100 := (sb_nlt (by decide) hw).mp (show -nI 100 < -nI w from c1)
        refine lv_aload_n hX hB dJ6_getChars_ba4f3_72 rfl (lv_at hl 3 rfl) ?_
        refine lv_iinc (v := nI (p - 1)) (lv' := [(5, .int (nI (p - 1))), (0, .int (-(nI w))), (6, .int 0), (2, .ref a)]) hX hB dJ6_getChars_ba4f3_73 hl (k := 2) rfl (zi_dec2 (zi_i p) (by omega)) (by decide) rfl (fun ls hl => ?_)
        refine lv_iload hX hB dJ6_getChars_ba4f3_76 (lv_at hl 0 rfl) ?_
        refine va_gets hX hB hZ1 hS C.o (C.ts _ zm1181) (fun _ h => h) dJ6_getChars_ba4f3_78 ?_
        refine lv_iload_n hX hB dJ6_getChars_ba4f3_81 rfl (lv_at hl 1 rfl) ?_
        refine lv_ineg hX hB dJ6_getChars_ba4f3_82 ?_
        rw [Int32.neg_neg]
        refine va_tb hX hB hT1 hS (vp_in_nI h100 (by decide)) (v := .int (nI (48 + w % 10))) (by rw [nI_clamp (by omega)]) dJ6_getChars_ba4f3_83 ?_
        refine z_bast C hP hD hS 0 rfl (k := p - 1) (zi_i (p - 1)) (by omega) (by omega) (y := nI (48 + w % 10)) (by rw [vp_nar_byte]; exact zb8 _ (by omega)) (w' := [(a, .inl (cy 2, m, .inl (upd g (p - 1) (nI (48 + w % 10)))))]) rfl dJ6_getChars_ba4f3_84 (fun H locs hP hD hS => ?_)
        refine lv_iload_n hX hB dJ6_getChars_ba4f3_85 rfl (lv_at hl 1 rfl) ?_
        refine lv_bipush (v := -9) hX hB dJ6_getChars_ba4f3_86 (by decide) ?_
        refine lv_icmp_ge (tgt := 104) hX hB dJ6_getChars_ba4f3_88 (by decide) (fun c2 => ?_) (fun c2 => ?_)
        · have h9 : w < 10 := by have := (sb_nle (by decide) hw).mp (show -nI 9 ≤ -nI w from c2); omega
          have hd : sb_dg w = 1 := if_pos h9
          refine lv_iload hX hB dJ6_getChars_ba4f3_104 (lv_at hl 2 rfl) ?_
          refine lv_if_eq (tgt := 118) hX hB dJ6_getChars_ba4f3_106 (by decide) (fun _ => ?_) (fun c => absurd rfl c)
          refine lv_iload hX hB dJ6_getChars_ba4f3_118 (lv_at hl 0 rfl) ?_
          refine z_iretr (upd g (p - 1) (nI (48 + w % 10))) (hz _ ⟨fun hf => sb_fitU hf (zfitb8 (zle_of (zi_i _) (by omega) (by decide))), fun j hj => pk_un (by omega), fun i hi => ?_⟩) C hRT hP hD hS (Nat.le_of_ble_eq_true rfl) (Nat.le_of_ble_eq_true rfl) (congrArg nI (by omega)) rfl dJ6_getChars_ba4f3_120
          obtain rfl : i = 0 := by omega
          rw [Nat.sub_zero, pk_us, Nat.pow_zero, Nat.div_one]
        · have h9 : ¬ w < 10 := fun z => c2 (show -nI 9 ≤ -nI w from (sb_nle (by decide) hw).mpr (by omega))
          have hd : sb_dg w = 2 := by rw [sb_dg, if_neg h9, if_pos h100]
          refine lv_aload_n hX hB dJ6_getChars_ba4f3_91 rfl (lv_at hl 3 rfl) ?_
          refine lv_iinc (v := nI (p - 1 - 1)) (lv' := [(5, .int (nI (p - 1 - 1))), (0, .int (-(nI w))), (6, .int 0), (2, .ref a)]) hX hB dJ6_getChars_ba4f3_92 hl (k := 0) rfl (zi_dec2 (zi_i (p - 1)) (by omega)) (by decide) rfl (fun ls hl => ?_)
          refine lv_iload hX hB dJ6_getChars_ba4f3_95 (lv_at hl 0 rfl) ?_
          refine va_gets hX hB hZ2 hS C.o (C.ts _ zm1182) (fun _ h => h) dJ6_getChars_ba4f3_97 ?_
          refine lv_iload_n hX hB dJ6_getChars_ba4f3_100 rfl (lv_at hl 1 rfl) ?_
          refine lv_ineg hX hB dJ6_getChars_ba4f3_101 ?_
          rw [Int32.neg_neg]
          refine va_tb hX hB hT2 hS (vp_in_nI h100 (by decide)) (v := .int (nI (48 + w / 10))) (by rw [nI_clamp (by omega)]) dJ6_getChars_ba4f3_102 ?_
          refine z_bast C hP hD hS 0 rfl (k := p - 1 - 1) (zi_i (p - 1 - 1)) (by omega) (by omega) (y := nI (48 + w / 10)) (by rw [vp_nar_byte]; exact zb8 _ (by omega)) (w' := [(a, .inl (cy 2, m, .inl (upd (upd g (p - 1) (nI (48 + w % 10))) (p - 1 - 1) (nI (48 + w / 10)))))]) rfl dJ6_getChars_ba4f3_103 (fun H locs hP hD hS => ?_)
          refine lv_iload hX hB dJ6_getChars_ba4f3_104 (lv_at hl 2 rfl) ?_
          refine lv_if_eq (tgt := 118) hX hB dJ6_getChars_ba4f3_106 (by decide) (fun _ => ?_) (fun c => absurd rfl c)
          refine lv_iload hX hB dJ6_getChars_ba4f3_118 (lv_at hl 0 rfl) ?_
          refine z_iretr (upd (upd g (p - 1) (nI (48 + w % 10))) (p - 1 - 1) (nI (48 + w / 10))) (hz _ ⟨fun hf => sb_fitU (sb_fitU hf (zfitb8 (zle_of (zi_i _) (by omega) (by decide)))) (zfitb8 (zle_of (zi_i _) (by omega) (by decide))), fun j hj => by rw [pk_un (by omega), pk_un (by omega)], fun i hi => ?_⟩) C hRT hP hD hS (Nat.le_of_ble_eq_true rfl) (Nat.le_of_ble_eq_true rfl) (congrArg nI (by omega)) rfl dJ6_getChars_ba4f3_120
          have d2 : w / 10 % 10 = w / 10 := by omega
          obtain rfl | rfl : i = 0 ∨ i = 1 := by omega
          · rw [Nat.sub_zero, pk_un (by omega), pk_us, Nat.pow_zero, Nat.div_one]
          · rw [pk_us, Nat.pow_one, d2]
      · have h100 : ¬ w < 100 := fun z => c1 (show -nI 100 < -nI w from (sb_nlt (by decide) hw).mpr z)
        have hd := sb_dg100 (w := w) (by omega) hw
        have hd2 := (sb_dg_in (w / 100)).1
        have hm10 : w % 100 % 10 = w % 10 := by omega
        have hm100 : w % 100 / 10 = w / 10 % 10 := by omega
        refine lv_iload_n hX hB dJ6_getChars_ba4f3_28 rfl (lv_at hl 0 rfl) ?_
        refine lv_bipush (v := 100) hX hB dJ6_getChars_ba4f3_29 (by decide) ?_
        refine z_idiv (v := -(nI (w / 100))) C dJ6_getChars_ba4f3_31 (by decide) (sb_ndiv hw) ?_
        refine lv_istore_n (lv' := [(3, .int (-(nI (w / 100)))), (0, .int (-(nI w))), (6, .int 0), (5, .int (nI p)), (2, .ref a)]) hX hB dJ6_getChars_ba4f3_32 rfl hl (by decide) rfl (fun ls hl => ?_)
        refine lv_iload_n hX hB dJ6_getChars_ba4f3_33 rfl (lv_at hl 0 rfl) ?_
        refine lv_bipush (v := 100) hX hB dJ6_getChars_ba4f3_34 (by decide) ?_
        refine lv_imul hX hB dJ6_getChars_ba4f3_36 ?_
        refine lv_iload_n hX hB dJ6_getChars_ba4f3_37 rfl (lv_at hl 1 rfl) ?_
        refine z_isub (v := nI (w % 100)) C dJ6_getChars_ba4f3_38 (sb_nrem hw) ?_
        refine lv_istore (lv' := [(4, .int (nI (w % 100))), (3, .int (-(nI (w / 100)))), (6, .int 0), (5, .int (nI p)), (2, .ref a)]) hX hB dJ6_getChars_ba4f3_39 (lv_sub hl [0, 2, 3, 4] rfl) (by decide) rfl (fun ls hl => ?_)
        refine lv_iload_n hX hB dJ6_getChars_ba4f3_41 rfl (lv_at hl 1 rfl) ?_
        refine lv_istore_n (lv' := [(0, .int (-(nI (w / 100)))), (4, .int (nI (w % 100))), (6, .int 0), (5, .int (nI p)), (2, .ref a)]) hX hB dJ6_getChars_ba4f3_42 rfl (lv_sub hl [0, 2, 3, 4] rfl) (by decide) rfl (fun ls hl => ?_)
        refine lv_aload_n hX hB dJ6_getChars_ba4f3_43 rfl (lv_at hl 4 rfl) ?_
        refine lv_iinc (v := nI (p - 1)) (lv' := [(5, .int (nI (p - 1))), (0, .int (-(nI (w / 100)))), (4, .int (nI (w % 100))), (6, .int 0), (2, .ref a)]) hX hB dJ6_getChars_ba4f3_44 hl (k := 3) rfl (zi_dec2 (zi_i p) (by omega)) (by decide) rfl (fun ls hl => ?_)
        refine lv_iload hX hB dJ6_getChars_ba4f3_47 (lv_at hl 0 rfl) ?_
        refine va_gets hX hB hZ1 hS C.o (C.ts _ zm1181) (fun _ h => h) dJ6_getChars_ba4f3_49 ?_
        refine lv_iload hX hB dJ6_getChars_ba4f3_52 (lv_at hl 2 rfl) ?_
        refine va_tb hX hB hT1 hS (vp_in_nI (Nat.mod_lt w (by decide) : w % 100 < 100) (by decide)) (v := .int (nI (48 + w % 10))) (by rw [nI_clamp (by omega), hm10]) dJ6_getChars_ba4f3_54 ?_
        refine z_bast C hP hD hS 0 rfl (k := p - 1) (zi_i (p - 1)) (by omega) (by omega) (y := nI (48 + w % 10)) (by rw [vp_nar_byte]; exact zb8 _ (by omega)) (w' := [(a, .inl (cy 2, m, .inl (upd g (p - 1) (nI (48 + w % 10)))))]) rfl dJ6_getChars_ba4f3_55 (fun H locs hP hD hS => ?_)
        refine lv_aload_n hX hB dJ6_getChars_ba4f3_56 rfl (lv_at hl 4 rfl) ?_
        refine lv_iinc (v := nI (p - 1 - 1)) (lv' := [(5, .int (nI (p - 1 - 1))), (0, .int (-(nI (w / 100)))), (4, .int (nI (w % 100))), (6, .int 0), (2, .ref a)]) hX hB dJ6_getChars_ba4f3_57 hl (k := 0) rfl (zi_dec2 (zi_i (p - 1)) (by omega)) (by decide) rfl (fun ls hl => ?_)
        refine lv_iload hX hB dJ6_getChars_ba4f3_60 (lv_at hl 0 rfl) ?_
        refine va_gets hX hB hZ2 hS C.o (C.ts _ zm1182) (fun _ h => h) dJ6_getChars_ba4f3_62 ?_
        refine lv_iload hX hB dJ6_getChars_ba4f3_65 (lv_at hl 2 rfl) ?_
        refine va_tb hX hB hT2 hS (vp_in_nI (Nat.mod_lt w (by decide) : w % 100 < 100) (by decide)) (v := .int (nI (48 + w / 10 % 10))) (by rw [nI_clamp (by omega), hm100]) dJ6_getChars_ba4f3_67 ?_
        refine z_bast C hP hD hS 0 rfl (k := p - 1 - 1) (zi_i (p - 1 - 1)) (by omega) (by omega) (y := nI (48 + w / 10 % 10)) (by rw [vp_nar_byte]; exact zb8 _ (by omega)) (w' := [(a, .inl (cy 2, m, .inl (upd (upd g (p - 1) (nI (48 + w % 10))) (p - 1 - 1) (nI (48 + w / 10 % 10)))))]) rfl dJ6_getChars_ba4f3_68 (fun H locs hP hD hS => ?_)
        refine lv_goto (tgt := 22) hX hB dJ6_getChars_ba4f3_69 (by decide) ?_
        refine ih (w / 100) (p - 1 - 1) _ (by omega) (by omega) (by omega) (by omega) (by omega) (fun f' h => hz f' ?_) _ _ hP hD hS ls (lv_sub hl [1, 3, 0, 4] rfl)
        obtain ⟨g1, g2, g3⟩ := h
        refine ⟨fun hf => g1 (sb_fitU (sb_fitU hf (zfitb8 (zle_of (zi_i _) (by omega) (by decide)))) (zfitb8 (zle_of (zi_i _) (by omega) (by decide)))), fun j hj => ?_, fun i hi => ?_⟩
        · rw [g2 j (by omega), pk_un (by omega), pk_un (by omega)]
        · match i, hi with
          | 0, _ => rw [Nat.sub_zero, g2 _ (by omega), pk_un (by omega), pk_us, Nat.pow_zero, Nat.div_one]
          | 1, _ => rw [g2 _ (by omega), pk_us, Nat.pow_one]
          | k + 2, hi =>
            rw [show p - 1 - (k + 2) = p - 1 - 1 - 1 - k by omega, g3 k (by omega), Nat.div_div_eq_div_mul, show 100 * 10 ^ k = 10 ^ (k + 2) by rw [show k + 2 = k + 1 + 1 from rfl, Nat.pow_succ, Nat.pow_succ]; omega]
  refine loop (w0 + 1) w0 p0 f (by omega) hw0 rfl hp0 hpm (fun _ h => h) _ _ hP hD hS ls hl

set_option maxHeartbeats 4000000 in
set_option maxRecDepth 100000 in
theorem c_J5_appendI (l : Launch) {E : zEn} (hE : zEok E) (D : zG) (cy : Nat → ClassId) (hOB : zOutB E) (b : Nat) (x : zSBt) (t t' : Nat → Int32) (n w : Nat) (hw : w < 2 ^ 31) (hx : zSB t n x) (hn : n + sb_dg w ≤ 120) (ht1 : ∀ j, j < n → t' j = t j) (ht2 : ∀ i, i < sb_dg w → t' (n + sb_dg w - 1 - i) = nI (48 + w / 10 ^ i % 10)) (sz : Nat) : Met l yJ5_append_c97b9 (zws yJ5_append_c97b9 cJ5_append_c97b9 4 (some (.object "java/lang/AbstractStringBuilder"))) { frames := 4, cells := 1, slots := 300, locals := 180 } (zPre E D cy [.ref b, .int (nI w)] (zSBw cy b x n) sz) (zQqr D (zSB t' (n + sb_dg w)) (fun x' => zSBw cy b x' (n + sb_dg w)) (fun _ => some b) (va_A (zSBw cy b x n) sz)) 1 300 (va_A (zSBw cy b x n) sz) := by
  refine z_of (Qc := fun A => zQqr D (zSB t' (n + sb_dg w)) (fun x' => zSBw cy b x' (n + sb_dg w)) (fun _ => some b) A) (by decide +kernel) (Nat.le_of_ble_eq_true rfl) rfl ?_
  intro pG eN sT mI below meth cO A ls C hRT hnm hA hP hD hS hE0 hl
  have hX := C.x
  have hB := C.b
  have hdg := sb_dg_in w
  refine lv_aload_n hX hB dJ5_append_c97b9_0 rfl (lv_at hl 0 rfl) ?_
  refine fg_J5_79 C hP 0 rfl rfl dJ5_append_c97b9_1 ?_
  refine lv_istore_n (lv' := [(2, .int (nI n)), (0, .ref b), (1, .int (nI w))]) hX hB dJ5_append_c97b9_4 rfl hl (by decide) rfl (fun ls hl => ?_)
  refine lv_iload_n hX hB dJ5_append_c97b9_5 rfl (lv_at hl 0 rfl) ?_
  refine lv_iload_n hX hB dJ5_append_c97b9_6 rfl (lv_at hl 2 rfl) ?_
  refine z_callSi (isC := []) (isR := [0, 1]) (isO := [0, 1]) (n_J6_stringSize w) q_J6_stringSize (fun _ => zSBw cy b x n) (fun o => o) (c_J6_stringSize l hE D cy w hw) hE C zs_J5_245 ⟨Nat.le_of_ble_eq_true rfl, Nat.le_of_ble_eq_true rfl⟩ hP hD hS hA hE0 ⟨rfl, rfl, rfl, by decide, rfl, rfl, rfl⟩ rfl hl.1 (Nat.le_of_ble_eq_true rfl) rfl dJ5_append_c97b9_7 ⟨Nat.le_of_ble_eq_true rfl, Nat.le_of_ble_eq_true rfl⟩ (fun o H locs eo hP hD hS => ?_)
  rw [n_stringSize hw] at eo
  subst eo
  refine z_iadd (v := nI (n + sb_dg w)) C dJ5_append_c97b9_10 (zi_add (zi_i n) (zi_i (sb_dg w))) ?_
  refine lv_istore_n (lv' := [(3, .int (nI (n + sb_dg w))), (2, .int (nI n)), (0, .ref b), (1, .int (nI w))]) hX hB dJ5_append_c97b9_11 rfl hl (by decide) rfl (fun ls hl => ?_)
  refine lv_aload_n hX hB dJ5_append_c97b9_12 rfl (lv_at hl 2 rfl) ?_
  refine lv_iload_n hX hB dJ5_append_c97b9_13 rfl (lv_at hl 0 rfl) ?_
  refine z_govr (T := zSBt) x (Rl := zEns (n + sb_dg w) x) (wc' := fun x' => zSBw cy b x' n) (w' := fun x' => zSBw cy b x' n) (wc := zSBw cy b x n) (isC := [0, 1]) (isR := []) (isO := [0, 1]) (z_runU (isC := [0, 1]) (K := RJ4) (Qc := fun A => zQvr D (zEns (n + sb_dg w) x) (fun x' => zSBw cy b x' n) A) (c_J5_ensure l hE D cy hOB b x n (n + sb_dg w) hx.1 hn) hE C zu_J5_100 (va_tabs rfl rfl (hOB _ _ _ hE0).2.2.2.2.1) ⟨Nat.le_of_ble_eq_true rfl, Nat.le_of_ble_eq_true rfl⟩ hP hD hS hA hE0 rfl (by decide) 0 rfl rfl rfl rfl hl.1 (Nat.le_of_ble_eq_true rfl) rfl dJ5_append_c97b9_14 ⟨Nat.le_of_ble_eq_true rfl, Nat.le_of_ble_eq_true rfl⟩) hP hD hS hA (fun _ => ⟨rfl, rfl, rfl, by decide, rfl, rfl, rfl⟩) (fun x' H locs hx' hP hD hS => ?_)
  obtain ⟨a, m, f, ml⟩ := x'
  have hm : n + sb_dg w ≤ m := hx'.2.1
  have h300 : m ≤ 300 := hx'.1.2.1
  refine lv_aload_n hX hB dJ5_append_c97b9_17 rfl (lv_at hl 2 rfl) ?_
  refine z_goi (val := ()) (wc' := q_J5_isLatin1 cy b a m f ml n) (w' := fun _ => zSBw cy b (a, m, f, ml) n) (r0 := fun _ => 1) (wc := zSBw cy b (a, m, f, ml) n) (isC := [0, 1]) (isR := []) (isO := [0, 1]) (z_runU (isC := [0, 1]) (K := RJ4) (Qc := fun A => zQi D (q_J5_isLatin1 cy b a m f ml n ()) A 1) (c_J5_isLatin1 l hE D cy hOB b a m f ml n) hE C zu_J5_83 (C.ts _ zm1086) ⟨Nat.le_of_ble_eq_true rfl, Nat.le_of_ble_eq_true rfl⟩ hP hD hS hA hE0 rfl (by decide) 0 rfl rfl rfl rfl hl.1 (Nat.le_of_ble_eq_true rfl) rfl dJ5_append_c97b9_18 ⟨Nat.le_of_ble_eq_true rfl, Nat.le_of_ble_eq_true rfl⟩) hP hD hS hA ⟨rfl, rfl, rfl, by decide, rfl, rfl, rfl⟩ (fun o H locs eo hP hD hS => ?_)
  refine lv_if_eq (tgt := 37) hX hB dJ5_append_c97b9_21 (by decide) (fun c => absurd c (by decide)) (fun _ => ?_)
  refine lv_iload_n hX hB dJ5_append_c97b9_24 rfl (lv_at hl 3 rfl) ?_
  refine lv_iload_n hX hB dJ5_append_c97b9_25 rfl (lv_at hl 0 rfl) ?_
  refine lv_aload_n hX hB dJ5_append_c97b9_26 rfl (lv_at hl 2 rfl) ?_
  refine fg_J5_15 C hP 0 rfl rfl dJ5_append_c97b9_27 ?_
  refine z_goir (T := Nat → Int32) f (Rl := zDig w (n + sb_dg w) f) (wc' := fun f' => [(a, .inl (cy 2, m, .inl f'))]) (w' := fun f' => zSBw cy b (a, m, f', ml) n) (r0 := fun _ => nI (n + sb_dg w - sb_dg w)) (wc := [(a, .inl (cy 2, m, .inl f))]) (isC := [1]) (isR := [0]) (isO := [0, 1]) (z_runS (isC := [1]) (Qc := fun A => zQir D (zDig w (n + sb_dg w) f) (fun f' => [(a, .inl (cy 2, m, .inl f'))]) (fun _ => nI (n + sb_dg w - sb_dg w)) A) (c_J6_getChars l hE D cy hOB a m f w (n + sb_dg w) hw (by omega) hm h300) hE C zs_J5_248 ⟨Nat.le_of_ble_eq_true rfl, Nat.le_of_ble_eq_true rfl⟩ hP hD hS hA hE0 rfl (by decide) rfl hl.1 (Nat.le_of_ble_eq_true rfl) rfl dJ5_append_c97b9_30 ⟨Nat.le_of_ble_eq_true rfl, Nat.le_of_ble_eq_true rfl⟩) hP hD hS hA (fun _ => ⟨rfl, rfl, rfl, by decide, rfl, rfl, rfl⟩) (fun f' H locs hf' hP hD hS => ?_)
  refine lv_pop hX hB dJ5_append_c97b9_33 rfl ?_
  refine lv_goto (tgt := 48) hX hB dJ5_append_c97b9_34 (by decide) ?_
  refine lv_aload_n hX hB dJ5_append_c97b9_48 rfl (lv_at hl 2 rfl) ?_
  refine lv_iload_n hX hB dJ5_append_c97b9_49 rfl (lv_at hl 0 rfl) ?_
  refine fp_J5_79 C hP hD hS 0 rfl rfl rfl (Nat.le_of_ble_eq_true rfl) (w' := zSBw cy b (a, m, f', ml) (n + sb_dg w)) rfl dJ5_append_c97b9_50 (fun H locs hP hD hS => ?_)
  refine lv_aload_n hX hB dJ5_append_c97b9_53 rfl (lv_at hl 2 rfl) ?_
  refine z_aretr (a, m, f', ml) ⟨⟨hx'.1.1, h300, ?_, hf'.1 hx'.1.2.2.2⟩, hm, ?_⟩ C hRT (Or.inl ⟨_, rfl⟩) hP hD hS (Nat.le_of_ble_eq_true rfl) (Nat.le_of_ble_eq_true rfl) rfl rfl dJ5_append_c97b9_54
  · show ml = 0 ∨ ml = 1
    exact hx'.1.2.2.1
  · intro j hj
    show f' j = t' j ∧ zle (t' j) 127
    by_cases h : j < n
    · obtain ⟨g1, g2⟩ := hx.2.2 j h
      rw [ht1 j h]
      exact ⟨(hf'.2.1 j (Or.inl (by omega))).trans ((hx'.2.2.2 j (by have := hx.2.1; omega)).trans g1), g2⟩
    · have e := hf'.2.2 (n + sb_dg w - 1 - j) (by omega)
      have e2 := ht2 (n + sb_dg w - 1 - j) (by omega)
      rw [show n + sb_dg w - 1 - (n + sb_dg w - 1 - j) = j by omega] at e e2
      rw [e2]
      exact ⟨e, zle_of (zi_i _) (by omega) (by decide)⟩
