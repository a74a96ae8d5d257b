def q_J5_isLatin1 (cy : Nat → ClassId) (b : Nat) (a : Nat) (m : Nat) (f : Nat → Int32) (ml : Int32) (n : Nat) (o : Unit) : va_W := [(b, .inr (1, [.ref a, .int 0, .int ml, .int (nI n)])), (a, .inl (cy 2, m, .inl (f)))]
set_option maxHeartbeats 4000000 in
set_option maxRecDepth 100000 in
theorem c_J5_isLatin1 (l : Launch) {E : zEn} (hE : zEok E) (D : zG) (cy : Nat → ClassId) (hOB : zOutB E) (b a : Nat) (m : Nat) (f : Nat → Int32) (ml : Int32) (n : Nat)  (sz : Nat) : Met l yJ5_isLatin1_aae02 (zws yJ5_isLatin1_aae02 cJ5_isLatin1_aae02 1 (some .boolean)) { frames := 0, cells := 0, slots := 0, locals := 0 } (zPre E D cy [.ref b] [(b, .inr (1, [.ref a, .int 0, .int ml, .int (nI n)])), (a, .inl (cy 2, m, .inl (f)))] sz) (zQi D ((q_J5_isLatin1 cy b a m f ml n) ()) (va_A [(b, .inr (1, [.ref a, .int 0, .int ml, .int (nI n)])), (a, .inl (cy 2, m, .inl (f)))] sz) (1)) 0 0 (va_A [(b, .inr (1, [.ref a, .int 0, .int ml, .int (nI n)])), (a, .inl (cy 2, m, .inl (f)))] sz) := by
  refine z_of (Qc := fun A => zQi D ((q_J5_isLatin1 cy b a m f ml n) ()) A (1)) (by decide +kernel) (Nat.le_of_ble_eq_true rfl) rfl ?_
  intro pG eN sT mI below meth cO A ls C hRT hnm hA hP hD hS hE0 hl
  have hX := C.x
  have hB := C.b
  refine va_gets hX hB (((hOB _ _ _ hE0).1)) hS C.o (C.ts _ zm83) (fun _ h => h) dJ5_isLatin1_aae02_0 ?_
  refine lv_if_eq (tgt := 17) hX hB dJ5_isLatin1_aae02_3 (by decide) (fun c => absurd c (by decide)) (fun _ => ?_)
  refine lv_aload_n hX hB dJ5_isLatin1_aae02_6 rfl (lv_at hl 0 rfl) ?_
  refine fg_J5_22 C hP 0 rfl rfl dJ5_isLatin1_aae02_7 ?_
  refine lv_if_ne (tgt := 17) hX hB dJ5_isLatin1_aae02_10 (by decide) (fun c => absurd (by decide) c) (fun _ => ?_)
  refine lv_iconst (v := 1) hX hB dJ5_isLatin1_aae02_13 (by decide) ?_
  refine lv_goto (tgt := 18) hX hB dJ5_isLatin1_aae02_14 (by decide) ?_
  exact z_zret' () (w' := q_J5_isLatin1 cy b a m f ml n) (r0 := (fun (o : Unit) => 1)) rfl C hRT (zb01 (Or.inr rfl)) hP hD hS (Nat.le_of_ble_eq_true rfl) (Nat.le_of_ble_eq_true rfl) rfl rfl dJ5_isLatin1_aae02_18

def q_J1_canEncodeC   (o : Unit) : va_W := []
set_option maxHeartbeats 4000000 in
set_option maxRecDepth 100000 in
theorem c_J1_canEncodeC (l : Launch) {E : zEn} (hE : zEok E) (D : zG) (cy : Nat → ClassId) (x : Int32) (k : Nat) (hx : zi x k) (hxb : k ≤ 255) (sz : Nat) : Met l yJ1_canEncode_fc78d (zws yJ1_canEncode_fc78d cJ1_canEncode_fc78d 1 (some .boolean)) { frames := 0, cells := 0, slots := 0, locals := 0 } (zPre E D cy [.int x] [] sz) (zQi D ((q_J1_canEncodeC ) ()) (va_A [] sz) (1)) 0 0 (va_A [] sz) := by
  refine z_of (Qc := fun A => zQi D ((q_J1_canEncodeC ) ()) A (1)) (by decide +kernel) (Nat.le_of_ble_eq_true rfl) rfl ?_
  intro pG eN sT mI below meth cO A ls C hRT hnm hA hP hD hS hE0 hl
  have hX := C.x
  have hB := C.b
  refine lv_iload_n hX hB dJ1_canEncode_fc78d_0 rfl (lv_at hl 0 rfl) ?_
  refine lv_sipush (v := 255) hX hB dJ1_canEncode_fc78d_1 (by decide) ?_
  refine lv_icmp_gt (tgt := 11) hX hB dJ1_canEncode_fc78d_4 (by decide) (fun c => absurd c (zi_nlt (zlit 255) hx (by omega) (by decide))) (fun _ => ?_)
  refine lv_iconst (v := 1) hX hB dJ1_canEncode_fc78d_7 (by decide) ?_
  refine lv_goto (tgt := 12) hX hB dJ1_canEncode_fc78d_8 (by decide) ?_
  exact z_zret' () (w' := q_J1_canEncodeC ) (r0 := (fun (o : Unit) => 1)) rfl C hRT (zb01 (Or.inr rfl)) hP hD hS (Nat.le_of_ble_eq_true rfl) (Nat.le_of_ble_eq_true rfl) rfl rfl dJ1_canEncode_fc78d_12

def n_J8_newLength (x : Nat) (y : Nat) (z : Nat) : Int32 :=
  nI (x + (max y z))
def q_J8_newLength   (o : Int32) : va_W := []
set_option maxHeartbeats 4000000 in
set_option maxRecDepth 100000 in
theorem c_J8_newLength (l : Launch) {E : zEn} (hE : zEok E) (D : zG) (cy : Nat → ClassId) (x : Nat) (y : Nat) (z : Nat) (hx : x ≤ 300) (hy : y ≤ 300) (hz : z ≤ 302) (hy1 : 1 ≤ y) (sz : Nat) : Met l yJ8_newLength_cabcc (zws yJ8_newLength_cabcc cJ8_newLength_cabcc 4 (some .int)) { frames := 1, cells := 0, slots := 0, locals := 14 } (zPre E D cy [.int (nI x), .int (nI y), .int (nI z)] [] sz) (zQi D ((q_J8_newLength ) (n_J8_newLength x y z)) (va_A [] sz) ((n_J8_newLength x y z))) 0 0 (va_A [] sz) := by
  refine z_of (Qc := fun A => zQi D ((q_J8_newLength ) (n_J8_newLength x y z)) A ((n_J8_newLength x y z))) (by decide +kernel) (Nat.le_of_ble_eq_true rfl) rfl ?_
  intro pG eN sT mI below meth cO A ls C hRT hnm hA hP hD hS hE0 hl
  have hX := C.x
  have hB := C.b
  refine lv_iload_n hX hB dJ8_newLength_cabcc_0 rfl (lv_at hl 0 rfl) ?_
  refine lv_iload_n hX hB dJ8_newLength_cabcc_1 rfl (lv_at hl 1 rfl) ?_
  refine lv_iload_n hX hB dJ8_newLength_cabcc_2 rfl (lv_at hl 2 rfl) ?_
  refine va_mmax hX hB (C.2.2.1.trans hl.1.symm) C.o (C.ts _ zm1067) (C.ts _ zm311) (C.ts _ zm199) (C.ts _ zm312) (Nat.le_of_ble_eq_true rfl) (Nat.le_of_ble_eq_true rfl) (Nat.le_of_ble_eq_true rfl) (Nat.le_of_ble_eq_true rfl) dJ8_newLength_cabcc_3 ?_
  refine z_iadd (v := nI (x + (max y z))) C dJ8_newLength_cabcc_6 (zi_add (zi_i x) (zi_max (zi_i y) (zi_i z) (by omega) (by omega))) ?_
  refine lv_istore_n (lv' := [(3, .int (nI (x + (max y z)))), (0, .int (nI x)), (1, .int (nI y)), (2, .int (nI z))]) hX hB dJ8_newLength_cabcc_7 rfl hl (by decide) rfl (fun ls hl => ?_)
  refine lv_iconst (v := 0) hX hB dJ8_newLength_cabcc_8 (by decide) ?_
  refine lv_iload_n hX hB dJ8_newLength_cabcc_9 rfl (lv_at hl 0 rfl) ?_
  refine lv_icmp_ge (tgt := 21) hX hB dJ8_newLength_cabcc_10 (by decide) (fun c => absurd c (zi_nle (zi_i (x + (max y z))) (zlit 0) (by omega) (by omega))) (fun _ => ?_)
  refine lv_iload_n hX hB dJ8_newLength_cabcc_13 rfl (lv_at hl 0 rfl) ?_
  refine lv_ldc hX hB C.o (C.ts _ zm1068) dJ8_newLength_cabcc_14 ?_
  refine lv_icmp_gt (tgt := 21) hX hB dJ8_newLength_cabcc_16 (by decide) (fun c => absurd c (zi_nlt (zlit 2147483639) (zi_i (x + (max y z))) (by omega) (by decide))) (fun _ => ?_)
  refine lv_iload_n hX hB dJ8_newLength_cabcc_19 rfl (lv_at hl 0 rfl) ?_
  exact z_iret' (nI (x + (max y z))) (w' := q_J8_newLength ) (r0 := (fun (o : Int32) => o)) (by simp only [n_J8_newLength]) C hRT hP hD hS (Nat.le_of_ble_eq_true rfl) (Nat.le_of_ble_eq_true rfl) rfl rfl dJ8_newLength_cabcc_20

def n_J5_newCapacity (m : Nat) (q : Nat) : Int32 :=
  let o_1 := n_J8_newLength m (q - m) (m + 2)
  o_1
def q_J5_newCapacity (cy : Nat → ClassId) (b : Nat) (a : Nat) (m : Nat) (f : Nat → Int32) (ml : Int32) (n : Nat) (o : Int32) : va_W := [(b, .inr (1, [.ref a, .int 0, .int ml, .int (nI n)])), (a, .inl (cy 2, m, .inl (f)))]
set_option maxHeartbeats 4000000 in
set_option maxRecDepth 100000 in
theorem c_J5_newCapacity (l : Launch) {E : zEn} (hE : zEok E) (D : zG) (cy : Nat → ClassId) (b a : Nat) (m : Nat) (f : Nat → Int32) (ml : Int32) (n : Nat) (q : Nat) (hm : m ≤ 300) (hq : q ≤ 300) (hmq : m < q) (sz : Nat) : Met l yJ5_newCapacity_0f7a4 (zws yJ5_newCapacity_0f7a4 cJ5_newCapacity_0f7a4 6 (some .int)) { frames := 2, cells := 0, slots := 0, locals := 37 } (zPre E D cy [.ref b, .int (nI q)] [(b, .inr (1, [.ref a, .int 0, .int ml, .int (nI n)])), (a, .inl (cy 2, m, .inl (f)))] sz) (zQi D ((q_J5_newCapacity cy b a m f ml n) (n_J5_newCapacity m q)) (va_A [(b, .inr (1, [.ref a, .int 0, .int ml, .int (nI n)])), (a, .inl (cy 2, m, .inl (f)))] sz) ((n_J5_newCapacity m q))) 0 0 (va_A [(b, .inr (1, [.ref a, .int 0, .int ml, .int (nI n)])), (a, .inl (cy 2, m, .inl (f)))] sz) := by
  refine z_of (Qc := fun A => zQi D ((q_J5_newCapacity cy b a m f ml n) (n_J5_newCapacity m q)) A ((n_J5_newCapacity m q))) (by decide +kernel) (Nat.le_of_ble_eq_true rfl) rfl ?_
  intro pG eN sT mI below meth cO A ls C hRT hnm hA hP hD hS hE0 hl
  have hX := C.x
  have hB := C.b
  refine lv_aload_n hX hB dJ5_newCapacity_0f7a4_0 rfl (lv_at hl 0 rfl) ?_
  refine fg_J5_15 C hP 0 rfl rfl dJ5_newCapacity_0f7a4_1 ?_
  refine z_alen C hP 1 2 rfl rfl (v := nI m) rfl dJ5_newCapacity_0f7a4_4 ?_
  refine lv_istore_n (lv' := [(2, .int (nI m)), (0, .ref b), (1, .int (nI q))]) hX hB dJ5_newCapacity_0f7a4_5 rfl hl (by decide) rfl (fun ls hl => ?_)
  refine lv_iload_n hX hB dJ5_newCapacity_0f7a4_6 rfl (lv_at hl 2 rfl) ?_
  refine lv_aload_n hX hB dJ5_newCapacity_0f7a4_7 rfl (lv_at hl 1 rfl) ?_
  refine fg_J5_22 C hP 0 rfl rfl dJ5_newCapacity_0f7a4_8 ?_
  refine lv_ishl hX hB dJ5_newCapacity_0f7a4_11 ?_
  rw [sb_shl0]
  refine lv_istore_n (lv' := [(3, .int (nI q)), (2, .int (nI m)), (0, .ref b), (1, .int (nI q))]) hX hB dJ5_newCapacity_0f7a4_12 rfl hl (by decide) rfl (fun ls hl => ?_)
  refine lv_iload_n hX hB dJ5_newCapacity_0f7a4_13 rfl (lv_at hl 0 rfl) ?_
  refine lv_iload_n hX hB dJ5_newCapacity_0f7a4_14 rfl (lv_at hl 1 rfl) ?_
  refine z_isub (v := nI (q - m)) C dJ5_newCapacity_0f7a4_15 (zi_sub (zi_i q) (zi_i m) (by omega)) ?_
  refine lv_istore (lv' := [(4, .int (nI (q - m))), (3, .int (nI q)), (2, .int (nI m)), (0, .ref b), (1, .int (nI q))]) hX hB dJ5_newCapacity_0f7a4_16 hl (by decide) rfl (fun ls hl => ?_)
  refine lv_iload_n hX hB dJ5_newCapacity_0f7a4_18 rfl (lv_at hl 2 rfl) ?_
  refine lv_iload hX hB dJ5_newCapacity_0f7a4_19 (lv_at hl 0 rfl) ?_
  refine lv_iload_n hX hB dJ5_newCapacity_0f7a4_21 rfl (lv_at hl 2 rfl) ?_
  refine lv_iconst (v := 2) hX hB dJ5_newCapacity_0f7a4_22 (by decide) ?_
  refine lv_aload_n hX hB dJ5_newCapacity_0f7a4_23 rfl (lv_at hl 3 rfl) ?_
  refine fg_J5_22 C hP 0 rfl rfl dJ5_newCapacity_0f7a4_24 ?_
  refine lv_ishl hX hB dJ5_newCapacity_0f7a4_27 ?_
  rw [sb_shl0]
  refine z_iadd (v := nI (m + 2)) C dJ5_newCapacity_0f7a4_28 (zi_add (zi_i m) (zlit 2)) ?_
  refine z_callSi (isC := []) (isR := [0, 1]) (isO := [0, 1]) (n_J8_newLength m (q - m) (m + 2)) (q_J8_newLength ) (fun o_1 => [(b, .inr (1, [.ref a, .int 0, .int ml, .int (nI n)])), (a, .inl (cy 2, m, .inl (f)))]) (fun o_1 => o_1) (c_J8_newLength l hE D cy  m (q - m) (m + 2) (by omega) (by omega) (by omega) (by omega)) hE C zs_J5_114 ⟨Nat.le_of_ble_eq_true rfl, Nat.le_of_ble_eq_true rfl⟩ hP hD hS hA hE0 ⟨rfl, rfl, rfl, by decide, rfl, rfl, rfl⟩ rfl hl.1 (Nat.le_of_ble_eq_true rfl) rfl dJ5_newCapacity_0f7a4_29 ⟨Nat.le_of_ble_eq_true rfl, Nat.le_of_ble_eq_true rfl⟩ (fun o_1 H locs eo_1 hP hD hS => ?_)
  refine lv_istore (lv' := [(5, .int o_1), (4, .int (nI (q - m))), (3, .int (nI q)), (2, .int (nI m)), (0, .ref b), (1, .int (nI q))]) hX hB dJ5_newCapacity_0f7a4_32 hl (by decide) rfl (fun ls hl => ?_)
  refine lv_iload hX hB dJ5_newCapacity_0f7a4_34 (lv_at hl 0 rfl) ?_
  refine lv_ldc hX hB C.o (C.ts _ zm1062) dJ5_newCapacity_0f7a4_36 ?_
  refine lv_icmp_ne (tgt := 51) hX hB dJ5_newCapacity_0f7a4_38 (by decide) (fun _ => ?_) (fun c => absurd c (zi_ne (by rw [eo_1]; exact rfl) (zlit 2147483647) (by omega) (by omega) (by decide)))
  refine lv_iload hX hB dJ5_newCapacity_0f7a4_51 (lv_at hl 0 rfl) ?_
  refine lv_aload_n hX hB dJ5_newCapacity_0f7a4_53 rfl (lv_at hl 4 rfl) ?_
  refine fg_J5_22 C hP 0 rfl rfl dJ5_newCapacity_0f7a4_54 ?_
  refine lv_ishr hX hB dJ5_newCapacity_0f7a4_57 ?_
  rw [sb_shr0]
  exact z_iret' o_1 (w' := q_J5_newCapacity cy b a m f ml n) (r0 := (fun (o : Int32) => o)) (by simp only [n_J5_newCapacity, ← eo_1]) C hRT hP hD hS (Nat.le_of_ble_eq_true rfl) (Nat.le_of_ble_eq_true rfl) rfl rfl dJ5_newCapacity_0f7a4_58

def n_J6_stringSize (w : Nat) : Int32 :=
  if -(nI w) ≤ (-10) then
    if -(nI w) ≤ (-100) then
      if -(nI w) ≤ (-1000) then
        if -(nI w) ≤ (-10000) then
          if -(nI w) ≤ (-100000) then
            if -(nI w) ≤ (-1000000) then
              if -(nI w) ≤ (-10000000) then
                if -(nI w) ≤ (-100000000) then
                  if -(nI w) ≤ (-1000000000) then
                    10
                  else
                    9
                else
                  8
              else
                7
            else
              6
          else
            5
        else
          4
      else
        3
    else
      2
  else
    1
def q_J6_stringSize   (o : Int32) : va_W := []
set_option maxHeartbeats 4000000 in
set_option maxRecDepth 100000 in
theorem c_J6_stringSize (l : Launch) {E : zEn} (hE : zEok E) (D : zG) (cy : Nat → ClassId) (w : Nat) (hw : w < 2 ^ 31) (sz : Nat) : Met l yJ6_stringSize_0f7a4 (zws yJ6_stringSize_0f7a4 cJ6_stringSize_0f7a4 4 (some .int)) { frames := 0, cells := 0, slots := 0, locals := 0 } (zPre E D cy [.int (nI w)] [] sz) (zQi D ((q_J6_stringSize ) (n_J6_stringSize w)) (va_A [] sz) ((n_J6_stringSize w))) 0 0 (va_A [] sz) := by
  refine z_of (Qc := fun A => zQi D ((q_J6_stringSize ) (n_J6_stringSize w)) A ((n_J6_stringSize w))) (by decide +kernel) (Nat.le_of_ble_eq_true rfl) rfl ?_
  intro pG eN sT mI below meth cO A ls C hRT hnm hA hP hD hS hE0 hl
  have hX := C.x
  have hB := C.b
  refine lv_iconst (v := 1) hX hB dJ6_stringSize_0f7a4_0 (by decide) ?_
  refine lv_istore_n (lv' := [(1, .int 1), (0, .int (nI w))]) hX hB dJ6_stringSize_0f7a4_1 rfl hl (by decide) rfl (fun ls hl => ?_)
  refine lv_iload_n hX hB dJ6_stringSize_0f7a4_2 rfl (lv_at hl 1 rfl) ?_
  refine lv_if_lt (tgt := 11) hX hB dJ6_stringSize_0f7a4_3 (by decide) (fun c => absurd c (zi_nlt (zi_i w) (zlit 0) (by omega) (by omega))) (fun _ => ?_)
  refine lv_iconst (v := 0) hX hB dJ6_stringSize_0f7a4_6 (by decide) ?_
  refine lv_istore_n (lv' := [(1, .int 0), (0, .int (nI w))]) hX hB dJ6_stringSize_0f7a4_7 rfl hl (by decide) rfl (fun ls hl => ?_)
  refine lv_iload_n hX hB dJ6_stringSize_0f7a4_8 rfl (lv_at hl 1 rfl) ?_
  refine lv_ineg hX hB dJ6_stringSize_0f7a4_9 ?_
  refine lv_istore_n (lv' := [(0, .int (-(nI w))), (1, .int 0)]) hX hB dJ6_stringSize_0f7a4_10 rfl hl (by decide) rfl (fun ls hl => ?_)
  refine lv_bipush (v := (-10)) hX hB dJ6_stringSize_0f7a4_11 (by decide) ?_
  refine lv_istore_n (lv' := [(2, .int (-10)), (0, .int (-(nI w))), (1, .int 0)]) hX hB dJ6_stringSize_0f7a4_13 rfl hl (by decide) rfl (fun ls hl => ?_)
  refine lv_iconst (v := 1) hX hB dJ6_stringSize_0f7a4_14 (by decide) ?_
  refine lv_istore_n (lv' := [(3, .int 1), (2, .int (-10)), (0, .int (-(nI w))), (1, .int 0)]) hX hB dJ6_stringSize_0f7a4_15 rfl hl (by decide) rfl (fun ls hl => ?_)
  refine lv_iload_n hX hB dJ6_stringSize_0f7a4_16 rfl (lv_at hl 0 rfl) ?_
  refine lv_bipush (v := 10) hX hB dJ6_stringSize_0f7a4_17 (by decide) ?_
  refine lv_icmp_ge (tgt := 42) hX hB dJ6_stringSize_0f7a4_19 (by decide) (fun c => absurd c (by decide)) (fun _ => ?_)
  refine lv_iload_n hX hB dJ6_stringSize_0f7a4_22 rfl (lv_at hl 2 rfl) ?_
  refine lv_iload_n hX hB dJ6_stringSize_0f7a4_23 rfl (lv_at hl 1 rfl) ?_
  refine lv_icmp_le (tgt := 31) hX hB dJ6_stringSize_0f7a4_24 (by decide) (fun c_1 => ?_) (fun c_1 => ?_)
  · refine lv_bipush (v := 10) hX hB dJ6_stringSize_0f7a4_31 (by decide) ?_
    refine lv_iload_n hX hB dJ6_stringSize_0f7a4_33 rfl (lv_at hl 1 rfl) ?_
    refine z_imul (v := (-100)) C dJ6_stringSize_0f7a4_34 (by decide) ?_
    refine lv_istore_n (lv' := [(2, .int (-100)), (3, .int 1), (0, .int (-(nI w))), (1, .int 0)]) hX hB dJ6_stringSize_0f7a4_35 rfl hl (by decide) rfl (fun ls hl => ?_)
    refine lv_iinc (v := 2) (lv' := [(3, .int 2), (2, .int (-100)), (0, .int (-(nI w))), (1, .int 0)]) hX hB dJ6_stringSize_0f7a4_36 hl (k := 1) rfl (by decide) (by decide) rfl (fun ls hl => ?_)
    refine lv_goto (tgt := 16) hX hB dJ6_stringSize_0f7a4_39 (by decide) ?_
    refine lv_iload_n hX hB dJ6_stringSize_0f7a4_16 rfl (lv_at hl 0 rfl) ?_
    refine lv_bipush (v := 10) hX hB dJ6_stringSize_0f7a4_17 (by decide) ?_
    refine lv_icmp_ge (tgt := 42) hX hB dJ6_stringSize_0f7a4_19 (by decide) (fun c => absurd c (by decide)) (fun _ => ?_)
    refine lv_iload_n hX hB dJ6_stringSize_0f7a4_22 rfl (lv_at hl 2 rfl) ?_
    refine lv_iload_n hX hB dJ6_stringSize_0f7a4_23 rfl (lv_at hl 1 rfl) ?_
    refine lv_icmp_le (tgt := 31) hX hB dJ6_stringSize_0f7a4_24 (by decide) (fun c_2 => ?_) (fun c_2 => ?_)
    · refine lv_bipush (v := 10) hX hB dJ6_stringSize_0f7a4_31 (by decide) ?_
      refine lv_iload_n hX hB dJ6_stringSize_0f7a4_33 rfl (lv_at hl 1 rfl) ?_
      refine z_imul (v := (-1000)) C dJ6_stringSize_0f7a4_34 (by decide) ?_
      refine lv_istore_n (lv' := [(2, .int (-1000)), (3, .int 2), (0, .int (-(nI w))), (1, .int 0)]) hX hB dJ6_stringSize_0f7a4_35 rfl hl (by decide) rfl (fun ls hl => ?_)
      refine lv_iinc (v := 3) (lv' := [(3, .int 3), (2, .int (-1000)), (0, .int (-(nI w))), (1, .int 0)]) hX hB dJ6_stringSize_0f7a4_36 hl (k := 1) rfl (by decide) (by decide) rfl (fun ls hl => ?_)
      refine lv_goto (tgt := 16) hX hB dJ6_stringSize_0f7a4_39 (by decide) ?_
      refine lv_iload_n hX hB dJ6_stringSize_0f7a4_16 rfl (lv_at hl 0 rfl) ?_
      refine lv_bipush (v := 10) hX hB dJ6_stringSize_0f7a4_17 (by decide) ?_
      refine lv_icmp_ge (tgt := 42) hX hB dJ6_stringSize_0f7a4_19 (by decide) (fun c => absurd c (by decide)) (fun _ => ?_)
      refine lv_iload_n hX hB dJ6_stringSize_0f7a4_22 rfl (lv_at hl 2 rfl) ?_
      refine lv_iload_n hX hB dJ6_stringSize_0f7a4_23 rfl (lv_at hl 1 rfl) ?_
      refine lv_icmp_le (tgt := 31) hX hB dJ6_stringSize_0f7a4_24 (by decide) (fun c_3 => ?_) (fun c_3 => ?_)
      · refine lv_bipush (v := 10) hX hB dJ6_stringSize_0f7a4_31 (by decide) ?_
        refine lv_iload_n hX hB dJ6_stringSize_0f7a4_33 rfl (lv_at hl 1 rfl) ?_
        refine z_imul (v := (-10000)) C dJ6_stringSize_0f7a4_34 (by decide) ?_
        refine lv_istore_n (lv' := [(2, .int (-10000)), (3, .int 3), (0, .int (-(nI w))), (1, .int 0)]) hX hB dJ6_stringSize_0f7a4_35 rfl hl (by decide) rfl (fun ls hl => ?_)
        refine lv_iinc (v := 4) (lv' := [(3, .int 4), (2, .int (-10000)), (0, .int (-(nI w))), (1, .int 0)]) hX hB dJ6_stringSize_0f7a4_36 hl (k := 1) rfl (by decide) (by decide) rfl (fun ls hl => ?_)
        refine lv_goto (tgt := 16) hX hB dJ6_stringSize_0f7a4_39 (by decide) ?_
        refine lv_iload_n hX hB dJ6_stringSize_0f7a4_16 rfl (lv_at hl 0 rfl) ?_
        refine lv_bipush (v := 10) hX hB dJ6_stringSize_0f7a4_17 (by decide) ?_
        refine lv_icmp_ge (tgt := 42) hX hB dJ6_stringSize_0f7a4_19 (by decide) (fun c => absurd c (by decide)) (fun _ => ?_)
        refine lv_iload_n hX hB dJ6_stringSize_0f7a4_22 rfl (lv_at hl 2 rfl) ?_
        refine lv_iload_n hX hB dJ6_stringSize_0f7a4_23 rfl (lv_at hl 1 rfl) ?_
        refine lv_icmp_le (tgt := 31) hX hB dJ6_stringSize_0f7a4_24 (by decide) (fun c_4 => ?_) (fun c_4 => ?_)
        · refine lv_bipush (v := 10) hX hB dJ6_stringSize_0f7a4_31 (by decide) ?_
          refine lv_iload_n hX hB dJ6_stringSize_0f7a4_33 rfl (lv_at hl 1 rfl) ?_
          refine z_imul (v := (-100000)) C dJ6_stringSize_0f7a4_34 (by decide) ?_
          refine lv_istore_n (lv' := [(2, .int (-100000)), (3, .int 4), (0, .int (-(nI w))), (1, .int 0)]) hX hB dJ6_stringSize_0f7a4_35 rfl hl (by decide) rfl (fun ls hl => ?_)
          refine lv_iinc (v := 5) (lv' := [(3, .int 5), (2, .int (-100000)), (0, .int (-(nI w))), (1, .int 0)]) hX hB dJ6_stringSize_0f7a4_36 hl (k := 1) rfl (by decide) (by decide) rfl (fun ls hl => ?_)
          refine lv_goto (tgt := 16) hX hB dJ6_stringSize_0f7a4_39 (by decide) ?_
          refine lv_iload_n hX hB dJ6_stringSize_0f7a4_16 rfl (lv_at hl 0 rfl) ?_
          refine lv_bipush (v := 10) hX hB dJ6_stringSize_0f7a4_17 (by decide) ?_
          refine lv_icmp_ge (tgt := 42) hX hB dJ6_stringSize_0f7a4_19 (by decide) (fun c => absurd c (by decide)) (fun _ => ?_)
          refine lv_iload_n hX hB dJ6_stringSize_0f7a4_22 rfl (lv_at hl 2 rfl) ?_
          refine lv_iload_n hX hB dJ6_stringSize_0f7a4_23 rfl (lv_at hl 1 rfl) ?_
          refine lv_icmp_le (tgt := 31) hX hB dJ6_stringSize_0f7a4_24 (by decide) (fun c_5 => ?_) (fun c_5 => ?_)
          · refine lv_bipush (v := 10) hX hB dJ6_stringSize_0f7a4_31 (by decide) ?_
            refine lv_iload_n hX hB dJ6_stringSize_0f7a4_33 rfl (lv_at hl 1 rfl) ?_
            refine z_imul (v := (-1000000)) C dJ6_stringSize_0f7a4_34 (by decide) ?_
            refine lv_istore_n (lv' := [(2, .int (-1000000)), (3, .int 5), (0, .int (-(nI w))), (1, .int 0)]) hX hB dJ6_stringSize_0f7a4_35 rfl hl (by decide) rfl (fun ls hl => ?_)
            refine lv_iinc (v := 6) (lv' := [(3, .int 6), (2, .int (-1000000)), (0, .int (-(nI w))), (1, .int 0)]) hX hB dJ6_stringSize_0f7a4_36 hl (k := 1) rfl (by decide) (by decide) rfl (fun ls hl => ?_)
            refine lv_goto (tgt := 16) hX hB dJ6_stringSize_0f7a4_39 (by decide) ?_
            refine lv_iload_n hX hB dJ6_stringSize_0f7a4_16 rfl (lv_at hl 0 rfl) ?_
            refine lv_bipush (v := 10) hX hB dJ6_stringSize_0f7a4_17 (by decide) ?_
            refine lv_icmp_ge (tgt := 42) hX hB dJ6_stringSize_0f7a4_19 (by decide) (fun c => absurd c (by decide)) (fun _ => ?_)
            refine lv_iload_n hX hB dJ6_stringSize_0f7a4_22 rfl (lv_at hl 2 rfl) ?_
            refine lv_iload_n hX hB dJ6_stringSize_0f7a4_23 rfl (lv_at hl 1 rfl) ?_
            refine lv_icmp_le (tgt := 31) hX hB dJ6_stringSize_0f7a4_24 (by decide) (fun c_6 => ?_) (fun c_6 => ?_)
            · refine lv_bipush (v := 10) hX hB dJ6_stringSize_0f7a4_31 (by decide) ?_
              refine lv_iload_n hX hB dJ6_stringSize_0f7a4_33 rfl (lv_at hl 1 rfl) ?_
              refine z_imul (v := (-10000000)) C dJ6_stringSize_0f7a4_34 (by decide) ?_
              refine lv_istore_n (lv' := [(2, .int (-10000000)), (3, .int 6), (0, .int (-(nI w))), (1, .int 0)]) hX hB dJ6_stringSize_0f7a4_35 rfl hl (by decide) rfl (fun ls hl => ?_)
              refine lv_iinc (v := 7) (lv' := [(3, .int 7), (2, .int (-10000000)), (0, .int (-(nI w))), (1, .int 0)]) hX hB dJ6_stringSize_0f7a4_36 hl (k := 1) rfl (by decide) (by decide) rfl (fun ls hl => ?_)
              refine lv_goto (tgt := 16) hX hB dJ6_stringSize_0f7a4_39 (by decide) ?_
              refine lv_iload_n hX hB dJ6_stringSize_0f7a4_16 rfl (lv_at hl 0 rfl) ?_
              refine lv_bipush (v := 10) hX hB dJ6_stringSize_0f7a4_17 (by decide) ?_
              refine lv_icmp_ge (tgt := 42) hX hB dJ6_stringSize_0f7a4_19 (by decide) (fun c => absurd c (by decide)) (fun _ => ?_)
              refine lv_iload_n hX hB dJ6_stringSize_0f7a4_22 rfl (lv_at hl 2 rfl) ?_
              refine lv_iload_n hX hB dJ6_stringSize_0f7a4_23 rfl (lv_at hl 1 rfl) ?_
              refine lv_icmp_le (tgt := 31) hX hB dJ6_stringSize_0f7a4_24 (by decide) (fun c_7 => ?_) (fun c_7 => ?_)
              · refine lv_bipush (v := 10) hX hB dJ6_stringSize_0f7a4_31 (by decide) ?_
                refine lv_iload_n hX hB dJ6_stringSize_0f7a4_33 rfl (lv_at hl 1 rfl) ?_
                refine z_imul (v := (-100000000)) C dJ6_stringSize_0f7a4_34 (by decide) ?_
                refine lv_istore_n (lv' := [(2, .int (-100000000)), (3, .int 7), (0, .int (-(nI w))), (1, .int 0)]) hX hB dJ6_stringSize_0f7a4_35 rfl hl (by decide) rfl (fun ls hl => ?_)
                refine lv_iinc (v := 8) (lv' := [(3, .int 8), (2, .int (-100000000)), (0, .int (-(nI w))), (1, .int 0)]) hX hB dJ6_stringSize_0f7a4_36 hl (k := 1) rfl (by decide) (by decide) rfl (fun ls hl => ?_)
                refine lv_goto (tgt := 16) hX hB dJ6_stringSize_0f7a4_39 (by decide) ?_
                refine lv_iload_n hX hB dJ6_stringSize_0f7a4_16 rfl (lv_at hl 0 rfl) ?_
                refine lv_bipush (v := 10) hX hB dJ6_stringSize_0f7a4_17 (by decide) ?_
                refine lv_icmp_ge (tgt := 42) hX hB dJ6_stringSize_0f7a4_19 (by decide) (fun c => absurd c (by decide)) (fun _ => ?_)
                refine lv_iload_n hX hB dJ6_stringSize_0f7a4_22 rfl (lv_at hl 2 rfl) ?_
                refine lv_iload_n hX hB dJ6_stringSize_0f7a4_23 rfl (lv_at hl 1 rfl) ?_
                refine lv_icmp_le (tgt := 31) hX hB dJ6_stringSize_0f7a4_24 (by decide) (fun c_8 => ?_) (fun c_8 => ?_)
                · refine lv_bipush (v := 10) hX hB dJ6_stringSize_0f7a4_31 (by decide) ?_
                  refine lv_iload_n hX hB dJ6_stringSize_0f7a4_33 rfl (lv_at hl 1 rfl) ?_
                  refine z_imul (v := (-1000000000)) C dJ6_stringSize_0f7a4_34 (by decide) ?_
                  refine lv_istore_n (lv' := [(2, .int (-1000000000)), (3, .int 8), (0, .int (-(nI w))), (1, .int 0)]) hX hB dJ6_stringSize_0f7a4_35 rfl hl (by decide) rfl (fun ls hl => ?_)
                  refine lv_iinc (v := 9) (lv' := [(3, .int 9), (2, .int (-1000000000)), (0, .int (-(nI w))), (1, .int 0)]) hX hB dJ6_stringSize_0f7a4_36 hl (k := 1) rfl (by decide) (by decide) rfl (fun ls hl => ?_)
                  refine lv_goto (tgt := 16) hX hB dJ6_stringSize_0f7a4_39 (by decide) ?_
                  refine lv_iload_n hX hB dJ6_stringSize_0f7a4_16 rfl (lv_at hl 0 rfl) ?_
                  refine lv_bipush (v := 10) hX hB dJ6_stringSize_0f7a4_17 (by decide) ?_
                  refine lv_icmp_ge (tgt := 42) hX hB dJ6_stringSize_0f7a4_19 (by decide) (fun c => absurd c (by decide)) (fun _ => ?_)
                  refine lv_iload_n hX hB dJ6_stringSize_0f7a4_22 rfl (lv_at hl 2 rfl) ?_
                  refine lv_iload_n hX hB dJ6_stringSize_0f7a4_23 rfl (lv_at hl 1 rfl) ?_
                  refine lv_icmp_le (tgt := 31) hX hB dJ6_stringSize_0f7a4_24 (by decide) (fun c_9 => ?_) (fun c_9 => ?_)
                  · refine lv_bipush (v := 10) hX hB dJ6_stringSize_0f7a4_31 (by decide) ?_
                    refine lv_iload_n hX hB dJ6_stringSize_0f7a4_33 rfl (lv_at hl 1 rfl) ?_
                    refine z_imul (v := (-10000000000)) C dJ6_stringSize_0f7a4_34 (by decide) ?_
                    refine lv_istore_n (lv' := [(2, .int (-10000000000)), (3, .int 9), (0, .int (-(nI w))), (1, .int 0)]) hX hB dJ6_stringSize_0f7a4_35 rfl hl (by decide) rfl (fun ls hl => ?_)
                    refine lv_iinc (v := 10) (lv' := [(3, .int 10), (2, .int (-10000000000)), (0, .int (-(nI w))), (1, .int 0)]) hX hB dJ6_stringSize_0f7a4_36 hl (k := 1) rfl (by decide) (by decide) rfl (fun ls hl => ?_)
                    refine lv_goto (tgt := 16) hX hB dJ6_stringSize_0f7a4_39 (by decide) ?_
                    refine lv_iload_n hX hB dJ6_stringSize_0f7a4_16 rfl (lv_at hl 0 rfl) ?_
                    refine lv_bipush (v := 10) hX hB dJ6_stringSize_0f7a4_17 (by decide) ?_
                    refine lv_icmp_ge (tgt := 42) hX hB dJ6_stringSize_0f7a4_19 (by decide) (fun _ => ?_) (fun c => absurd (by decide) c)
                    refine lv_bipush (v := 10) hX hB dJ6_stringSize_0f7a4_42 (by decide) ?_
                    refine lv_iload_n hX hB dJ6_stringSize_0f7a4_44 rfl (lv_at hl 3 rfl) ?_
                    refine z_iadd (v := 10) C dJ6_stringSize_0f7a4_45 (by decide) ?_
                    exact z_iret' 10 (w' := q_J6_stringSize ) (r0 := (fun (o : Int32) => o)) (by simp only [n_J6_stringSize, if_pos c_1, if_pos c_2, if_pos c_3, if_pos c_4, if_pos c_5, if_pos c_6, if_pos c_7, if_pos c_8, if_pos c_9]) C hRT hP hD hS (Nat.le_of_ble_eq_true rfl) (Nat.le_of_ble_eq_true rfl) rfl rfl dJ6_stringSize_0f7a4_46
                  · refine lv_iload_n hX hB dJ6_stringSize_0f7a4_27 rfl (lv_at hl 0 rfl) ?_
                    refine lv_iload_n hX hB dJ6_stringSize_0f7a4_28 rfl (lv_at hl 3 rfl) ?_
                    refine z_iadd (v := 9) C dJ6_stringSize_0f7a4_29 (by decide) ?_
                    exact z_iret' 9 (w' := q_J6_stringSize ) (r0 := (fun (o : Int32) => o)) (by simp only [n_J6_stringSize, if_pos c_1, if_pos c_2, if_pos c_3, if_pos c_4, if_pos c_5, if_pos c_6, if_pos c_7, if_pos c_8, if_neg c_9]) C hRT hP hD hS (Nat.le_of_ble_eq_true rfl) (Nat.le_of_ble_eq_true rfl) rfl rfl dJ6_stringSize_0f7a4_30
                · refine lv_iload_n hX hB dJ6_stringSize_0f7a4_27 rfl (lv_at hl 0 rfl) ?_
                  refine lv_iload_n hX hB dJ6_stringSize_0f7a4_28 rfl (lv_at hl 3 rfl) ?_
                  refine z_iadd (v := 8) C dJ6_stringSize_0f7a4_29 (by decide) ?_
                  exact z_iret' 8 (w' := q_J6_stringSize ) (r0 := (fun (o : Int32) => o)) (by simp only [n_J6_stringSize, if_pos c_1, if_pos c_2, if_pos c_3, if_pos c_4, if_pos c_5, if_pos c_6, if_pos c_7, if_neg c_8]) C hRT hP hD hS (Nat.le_of_ble_eq_true rfl) (Nat.le_of_ble_eq_true rfl) rfl rfl dJ6_stringSize_0f7a4_30
              · refine lv_iload_n hX hB dJ6_stringSize_0f7a4_27 rfl (lv_at hl 0 rfl) ?_
                refine lv_iload_n hX hB dJ6_stringSize_0f7a4_28 rfl (lv_at hl 3 rfl) ?_
                refine z_iadd (v := 7) C dJ6_stringSize_0f7a4_29 (by decide) ?_
                exact z_iret' 7 (w' := q_J6_stringSize ) (r0 := (fun (o : Int32) => o)) (by simp only [n_J6_stringSize, if_pos c_1, if_pos c_2, if_pos c_3, if_pos c_4, if_pos c_5, if_pos c_6, if_neg c_7]) C hRT hP hD hS (Nat.le_of_ble_eq_true rfl) (Nat.le_of_ble_eq_true rfl) rfl rfl dJ6_stringSize_0f7a4_30
            · refine lv_iload_n hX hB dJ6_stringSize_0f7a4_27 rfl (lv_at hl 0 rfl) ?_
              refine lv_iload_n hX hB dJ6_stringSize_0f7a4_28 rfl (lv_at hl 3 rfl) ?_
              refine z_iadd (v := 6) C dJ6_stringSize_0f7a4_29 (by decide) ?_
              exact z_iret' 6 (w' := q_J6_stringSize ) (r0 := (fun (o : Int32) => o)) (by simp only [n_J6_stringSize, if_pos c_1, if_pos c_2, if_pos c_3, if_pos c_4, if_pos c_5, if_neg c_6]) C hRT hP hD hS (Nat.le_of_ble_eq_true rfl) (Nat.le_of_ble_eq_true rfl) rfl rfl dJ6_stringSize_0f7a4_30
          · refine lv_iload_n hX hB dJ6_stringSize_0f7a4_27 rfl (lv_at hl 0 rfl) ?_
            refine lv_iload_n hX hB dJ6_stringSize_0f7a4_28 rfl (lv_at hl 3 rfl) ?_
            refine z_iadd (v := 5) C dJ6_stringSize_0f7a4_29 (by decide) ?_
            exact z_iret' 5 (w' := q_J6_stringSize ) (r0 := (fun (o : Int32) => o)) (by simp only [n_J6_stringSize, if_pos c_1, if_pos c_2, if_pos c_3, if_pos c_4, if_neg c_5]) C hRT hP hD hS (Nat.le_of_ble_eq_true rfl) (Nat.le_of_ble_eq_true rfl) rfl rfl dJ6_stringSize_0f7a4_30
        · refine lv_iload_n hX hB dJ6_stringSize_0f7a4_27 rfl (lv_at hl 0 rfl) ?_
          refine lv_iload_n hX hB dJ6_stringSize_0f7a4_28 rfl (lv_at hl 3 rfl) ?_
          refine z_iadd (v := 4) C dJ6_stringSize_0f7a4_29 (by decide) ?_
          exact z_iret' 4 (w' := q_J6_stringSize ) (r0 := (fun (o : Int32) => o)) (by simp only [n_J6_stringSize, if_pos c_1, if_pos c_2, if_pos c_3, if_neg c_4]) C hRT hP hD hS (Nat.le_of_ble_eq_true rfl) (Nat.le_of_ble_eq_true rfl) rfl rfl dJ6_stringSize_0f7a4_30
      · refine lv_iload_n hX hB dJ6_stringSize_0f7a4_27 rfl (lv_at hl 0 rfl) ?_
        refine lv_iload_n hX hB dJ6_stringSize_0f7a4_28 rfl (lv_at hl 3 rfl) ?_
        refine z_iadd (v := 3) C dJ6_stringSize_0f7a4_29 (by decide) ?_
        exact z_iret' 3 (w' := q_J6_stringSize ) (r0 := (fun (o : Int32) => o)) (by simp only [n_J6_stringSize, if_pos c_1, if_pos c_2, if_neg c_3]) C hRT hP hD hS (Nat.le_of_ble_eq_true rfl) (Nat.le_of_ble_eq_true rfl) rfl rfl dJ6_stringSize_0f7a4_30
    · refine lv_iload_n hX hB dJ6_stringSize_0f7a4_27 rfl (lv_at hl 0 rfl) ?_
      refine lv_iload_n hX hB dJ6_stringSize_0f7a4_28 rfl (lv_at hl 3 rfl) ?_
      refine z_iadd (v := 2) C dJ6_stringSize_0f7a4_29 (by decide) ?_
      exact z_iret' 2 (w' := q_J6_stringSize ) (r0 := (fun (o : Int32) => o)) (by simp only [n_J6_stringSize, if_pos c_1, if_neg c_2]) C hRT hP hD hS (Nat.le_of_ble_eq_true rfl) (Nat.le_of_ble_eq_true rfl) rfl rfl dJ6_stringSize_0f7a4_30
  · refine lv_iload_n hX hB dJ6_stringSize_0f7a4_27 rfl (lv_at hl 0 rfl) ?_
    refine lv_iload_n hX hB dJ6_stringSize_0f7a4_28 rfl (lv_at hl 3 rfl) ?_
    refine z_iadd (v := 1) C dJ6_stringSize_0f7a4_29 (by decide) ?_
    exact z_iret' 1 (w' := q_J6_stringSize ) (r0 := (fun (o : Int32) => o)) (by simp only [n_J6_stringSize, if_neg c_1]) C hRT hP hD hS (Nat.le_of_ble_eq_true rfl) (Nat.le_of_ble_eq_true rfl) rfl rfl dJ6_stringSize_0f7a4_30

def n_J3_checkIndex_n (x : Nat) : Int32 :=
  nI x
def q_J3_checkIndex_n   (o : Int32) : va_W := []
set_option maxHeartbeats 4000000 in
set_option maxRecDepth 100000 in
theorem c_J3_checkIndex_n (l : Launch) {E : zEn} (hE : zEok E) (D : zG) (cy : Nat → ClassId) (x : Nat) (y : Nat) (hxy : x < y) (hy : y < 2 ^ 31) (sz : Nat) : Met l yJ3_checkIndex_8e157 (zws yJ3_checkIndex_8e157 cJ3_checkIndex_8e157 3 (some .int)) { frames := 0, cells := 0, slots := 0, locals := 0 } (zPre E D cy [.int (nI x), .int (nI y), .null] [] sz) (zQi D ((q_J3_checkIndex_n ) (n_J3_checkIndex_n x)) (va_A [] sz) ((n_J3_checkIndex_n x))) 0 0 (va_A [] sz) := by
  refine z_of (Qc := fun A => zQi D ((q_J3_checkIndex_n ) (n_J3_checkIndex_n x)) A ((n_J3_checkIndex_n x))) (by decide +kernel) (Nat.le_of_ble_eq_true rfl) rfl ?_
  intro pG eN sT mI below meth cO A ls C hRT hnm hA hP hD hS hE0 hl
  have hX := C.x
  have hB := C.b
  refine lv_iload_n hX hB dJ3_checkIndex_8e157_0 rfl (lv_at hl 0 rfl) ?_
  refine lv_if_lt (tgt := 9) hX hB dJ3_checkIndex_8e157_1 (by decide) (fun c => absurd c (zi_nlt (zi_i x) (zlit 0) (by omega) (by omega))) (fun _ => ?_)
  refine lv_iload_n hX hB dJ3_checkIndex_8e157_4 rfl (lv_at hl 0 rfl) ?_
  refine lv_iload_n hX hB dJ3_checkIndex_8e157_5 rfl (lv_at hl 1 rfl) ?_
  refine lv_icmp_lt (tgt := 16) hX hB dJ3_checkIndex_8e157_6 (by decide) (fun _ => ?_) (fun c => absurd (zi_lt (zi_i x) (zi_i y) hxy hy) c)
  refine lv_iload_n hX hB dJ3_checkIndex_8e157_16 rfl (lv_at hl 0 rfl) ?_
  exact z_iret' (nI x) (w' := q_J3_checkIndex_n ) (r0 := (fun (o : Int32) => o)) (by simp only [n_J3_checkIndex_n]) C hRT hP hD hS (Nat.le_of_ble_eq_true rfl) (Nat.le_of_ble_eq_true rfl) rfl rfl dJ3_checkIndex_8e157_17

def n_J3_checkIndex_r (x : Nat) : Int32 :=
  nI x
def q_J3_checkIndex_r   (o : Int32) : va_W := []
set_option maxHeartbeats 4000000 in
set_option maxRecDepth 100000 in
theorem c_J3_checkIndex_r (l : Launch) {E : zEn} (hE : zEok E) (D : zG) (cy : Nat → ClassId) (r : Nat) (x : Nat) (y : Nat) (hxy : x < y) (hy : y < 2 ^ 31) (sz : Nat) : Met l yJ3_checkIndex_8e157 (zws yJ3_checkIndex_8e157 cJ3_checkIndex_8e157 3 (some .int)) { frames := 0, cells := 0, slots := 0, locals := 0 } (zPre E D cy [.int (nI x), .int (nI y), .ref r] [] sz) (zQi D ((q_J3_checkIndex_r ) (n_J3_checkIndex_r x)) (va_A [] sz) ((n_J3_checkIndex_r x))) 0 0 (va_A [] sz) := by
  refine z_of (Qc := fun A => zQi D ((q_J3_checkIndex_r ) (n_J3_checkIndex_r x)) A ((n_J3_checkIndex_r x))) (by decide +kernel) (Nat.le_of_ble_eq_true rfl) rfl ?_
  intro pG eN sT mI below meth cO A ls C hRT hnm hA hP hD hS hE0 hl
  have hX := C.x
  have hB := C.b
  refine lv_iload_n hX hB dJ3_checkIndex_8e157_0 rfl (lv_at hl 0 rfl) ?_
  refine lv_if_lt (tgt := 9) hX hB dJ3_checkIndex_8e157_1 (by decide) (fun c => absurd c (zi_nlt (zi_i x) (zlit 0) (by omega) (by omega))) (fun _ => ?_)
  refine lv_iload_n hX hB dJ3_checkIndex_8e157_4 rfl (lv_at hl 0 rfl) ?_
  refine lv_iload_n hX hB dJ3_checkIndex_8e157_5 rfl (lv_at hl 1 rfl) ?_
  refine lv_icmp_lt (tgt := 16) hX hB dJ3_checkIndex_8e157_6 (by decide) (fun _ => ?_) (fun c => absurd (zi_lt (zi_i x) (zi_i y) hxy hy) c)
  refine lv_iload_n hX hB dJ3_checkIndex_8e157_16 rfl (lv_at hl 0 rfl) ?_
  exact z_iret' (nI x) (w' := q_J3_checkIndex_r ) (r0 := (fun (o : Int32) => o)) (by simp only [n_J3_checkIndex_r]) C hRT hP hD hS (Nat.le_of_ble_eq_true rfl) (Nat.le_of_ble_eq_true rfl) rfl rfl dJ3_checkIndex_8e157_17
