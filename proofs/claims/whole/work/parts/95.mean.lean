def zQd (D : zG) (W' : va_W) (A : Nat → Prop) (R : UInt64) : Array Value → State → Outcome → State → Prop :=
  va_Qd (fun (r : UInt64) (_ : Unit) => r = R) (fun _ t => va_P D vwCl W' t.heap ∧ va_D A W') A
def zQf (D : zG) (W' : va_W) (A : Nat → Prop) (R : UInt32) : Array Value → State → Outcome → State → Prop :=
  va_Qf (fun (r : UInt32) (_ : Unit) => r = R) (fun _ t => va_P D vwCl W' t.heap ∧ va_D A W') A
section ZDR
variable {p : Program} {l : Launch} {e : Env} {R : Room} {s : State} {m : MethodId} {args : Array Value} {below : List Frame} {meth : Method} {c : Code} {H : Heap} {locs : List Loc} {cells slots : Nat} {Q : State → Prop}
variable {cc : ByteArray} {own : String} {nL : Nat} {D : zG} {cy : Nat → ClassId} {E : zEn} {A : Nat → Prop} {wv : va_W} {pc : Nat} {ls : Array Slot} {rest st0 : List Value}
theorem z_dret {w' : va_W} {R0 v : UInt64} {mc ms : Nat} (C : zC p s m args meth c cc own nL D cy) (hr : meth.sig.returnType = some .double) (hP : va_P D vwCl wv H) (hD : va_D A wv) (hS : va_S A s.heap H locs) (hc : cells ≤ mc) (hs : slots ≤ ms) (hv : v = R0) (hw : wv = w') (hdg : decode cc pc = .ok (.dreturn, 1)) : W p l e R s m args below meth c H locs cells slots (MQ below (zQd D w' A R0) args s mc ms A) (F0 m pc ls [.double v]) := by
  subst hv hw
  have hlk := C.lk
  refine W.widen hc hs ?_
  exact W.dret C.x C.b hr (fun t ht hW => ⟨⟨v, (), rfl, rfl, by rw [ht]; exact hP, hD⟩, hS.F ht⟩) hS.2.2 hdg hlk
theorem z_fret {w' : va_W} {R0 v : UInt32} {mc ms : Nat} (C : zC p s m args meth c cc own nL D cy) (hr : meth.sig.returnType = some .float) (hP : va_P D vwCl wv H) (hD : va_D A wv) (hS : va_S A s.heap H locs) (hc : cells ≤ mc) (hs : slots ≤ ms) (hv : v = R0) (hw : wv = w') (hdg : decode cc pc = .ok (.freturn, 1)) : W p l e R s m args below meth c H locs cells slots (MQ below (zQf D w' A R0) args s mc ms A) (F0 m pc ls [.float v]) := by
  subst hv hw
  have hlk := C.lk
  refine W.widen hc hs ?_
  exact W.fret C.x C.b hr (fun t ht hW => ⟨⟨v, (), rfl, rfl, by rw [ht]; exact hP, hD⟩, hS.F ht⟩) hS.2.2 hdg hlk
end ZDR
def zsum (a : Nat → Nat) : Nat → Nat
  | 0 => 0
  | k + 1 => zsum a k + a (30 + k)
theorem c_sum (a : Nat → Nat) (h : a 2 ≤ 4) : n_X6_scoreSum (nI (a 2)) (fun j => nI (a (30 + j))) = nI (zsum a (a 2)) := by
  have L : ∀ n, n < 10 → (nI (a 2) ≤ nI n ↔ a 2 ≤ n) := fun n hn => nI_leI (by omega) (by omega)
  have L0 : nI (a 2) ≤ 0 ↔ a 2 ≤ 0 := L 0 (by omega)
  have L1 : nI (a 2) ≤ 1 ↔ a 2 ≤ 1 := L 1 (by omega)
  have L2 : nI (a 2) ≤ 2 ↔ a 2 ≤ 2 := L 2 (by omega)
  have L3 : nI (a 2) ≤ 3 ↔ a 2 ≤ 3 := L 3 (by omega)
  unfold n_X6_scoreSum
  simp only [L0, L1, L2, L3]
  obtain hA | hA | hA | hA | hA : a 2 = 0 ∨ a 2 = 1 ∨ a 2 = 2 ∨ a 2 = 3 ∨ a 2 = 4 := by omega
  all_goals rw [hA]
  all_goals simp [zsum, lI0, nI_add]
set_option maxHeartbeats 4000000 in
set_option maxRecDepth 100000 in
theorem c_X8_meanScore (l : Launch) {E : zEn} (hE : zEok E) (D : zG) (cy : Nat → ClassId) (o0 y0 n0 b0 g0 c0 : Nat) (t : Nat → Nat) (e1 e2 e3 e4 e5 : Int32) (a : Nat → Nat) (h1 : 1 ≤ a 2) (h4 : a 2 ≤ 4) (sz : Nat) : Met l yX8_meanScore (zws yX8_meanScore cX8_meanScore 1 (some .double)) { frames := 1, cells := 0, slots := 0, locals := 30 } (zPre E D cy [.ref o0] (zObj o0 (t 0) y0 n0 b0 g0 c0 e1 e2 e3 e4 e5 ++ zTab cy t a) sz) (zQd D (zObj o0 (t 0) y0 n0 b0 g0 c0 e1 e2 e3 e4 e5 ++ zTab cy t a) (va_A (zObj o0 (t 0) y0 n0 b0 g0 c0 e1 e2 e3 e4 e5 ++ zTab cy t a) sz) (FP.ddiv (FP.i2d (nI (zsum a (a 2)))) (FP.i2d (nI (a 2))))) 0 0 (va_A (zObj o0 (t 0) y0 n0 b0 g0 c0 e1 e2 e3 e4 e5 ++ zTab cy t a) sz) := by
  refine z_of (Qc := fun A => zQd D (zObj o0 (t 0) y0 n0 b0 g0 c0 e1 e2 e3 e4 e5 ++ zTab cy t a) A (FP.ddiv (FP.i2d (nI (zsum a (a 2)))) (FP.i2d (nI (a 2))))) (by decide +kernel) (Nat.le_of_ble_eq_true rfl) rfl ?_
  intro pG eN sT mI below meth cO A ls C hRT hnm hA hP hD hS hE0 hl
  have hX := C.x
  have hB := C.b
  have hz : ¬ nI (a 2) = 0 := by rw [lI0]; exact fun z => by have := (nI_eq (by omega) (by omega)).mp z; omega
  refine lv_aload_n hX hB dX8_meanScore_0 rfl (lv_at hl 0 rfl) ?_
  refine fg_X8_10 C hP 0 rfl rfl dX8_meanScore_1 ?_
  refine fg_X8_72 C hP 1 rfl rfl dX8_meanScore_4 ?_
  refine lv_if_ne (tgt := 20) hX hB dX8_meanScore_7 (by decide) (fun _ => ?_) (fun c => absurd (show nI (a 2) = 0 from c) hz)
  refine lv_aload_n hX hB dX8_meanScore_20 rfl (lv_at hl 0 rfl) ?_
  refine fg_X8_10 C hP 0 rfl rfl dX8_meanScore_21 ?_
  refine z_callVi (isC := [1, 2, 3, 4, 5, 6, 7, 8, 9, 10, 11, 12, 13]) (isR := [0]) (isO := [0, 1, 2, 3, 4, 5, 6, 7, 8, 9, 10, 11, 12, 13]) (n_X6_scoreSum (nI (a 2)) (fun j => nI (a (30 + j)))) (q_X6_scoreSum cy (t 0) (t 1) (t 2) (t 3) (t 4) (t 5) (t 6) (t 7) (t 8) (t 9) (t 10) (t 11) (t 12) (nI (a 2)) (nI (a 0)) (nI (a 1)) (nI (a 3)) (nI (a 4)) (fun j => nI (a (30 + j))) (fun j => nI (a (34 + j))) (nI (mU a)) (nI (a 6)) (nI (a 7)) (nI (a 8)) (nI (a 9)) (nI (a 10)) (nI (a 11)) (nI (a 12)) (fun j => nI (a (16 + j))) (fun j => nI (a (20 + j))) (fun j => nI (a (24 + j))) (nI (a 13)) (fun j => nI (a (46 + 3 * j))) (fun j => nI (a (46 + 3 * j + 1))) (fun j => nI (a (46 + 3 * j + 2))) (nI (a 42 + a 43 + a 44 + a 45)) (nI (a 14)) (nI (a 15)) (fun j => nI (a (42 + j)))) (fun _ => (zObj o0 (t 0) y0 n0 b0 g0 c0 e1 e2 e3 e4 e5 ++ zTab cy t a)) (fun o => o) (c_X6_scoreSum l hE D cy (t 0) (t 1) (t 2) (t 3) (t 4) (t 5) (t 6) (t 7) (t 8) (t 9) (t 10) (t 11) (t 12) (nI (a 2)) (nI (a 0)) (nI (a 1)) (nI (a 3)) (nI (a 4)) (fun j => nI (a (30 + j))) (fun j => nI (a (34 + j))) (nI (mU a)) (nI (a 6)) (nI (a 7)) (nI (a 8)) (nI (a 9)) (nI (a 10)) (nI (a 11)) (nI (a 12)) (fun j => nI (a (16 + j))) (fun j => nI (a (20 + j))) (fun j => nI (a (24 + j))) (nI (a 13)) (fun j => nI (a (46 + 3 * j))) (fun j => nI (a (46 + 3 * j + 1))) (fun j => nI (a (46 + 3 * j + 2))) (nI (a 42 + a 43 + a 44 + a 45)) (nI (a 14)) (nI (a 15)) (fun j => nI (a (42 + j))) (zle_I h4 (by omega))) hE C zs_X8_248 ⟨Nat.le_of_ble_eq_true rfl, Nat.le_of_ble_eq_true rfl⟩ hP hD hS hA hE0 ⟨rfl, rfl, rfl, by decide, rfl, rfl, rfl⟩ 1 rfl rfl rfl rfl hl.1 (Nat.le_of_ble_eq_true rfl) rfl dX8_meanScore_24 ⟨Nat.le_of_ble_eq_true rfl, Nat.le_of_ble_eq_true rfl⟩ (fun o H locs eo hP hD hS => ?_)
  rw [c_sum a h4] at eo
  subst eo
  refine lv_i2d hX hB dX8_meanScore_27 ?_
  refine lv_aload_n hX hB dX8_meanScore_28 rfl (lv_at hl 0 rfl) ?_
  refine fg_X8_10 C hP 0 rfl rfl dX8_meanScore_29 ?_
  refine fg_X8_72 C hP 1 rfl rfl dX8_meanScore_32 ?_
  refine lv_i2d hX hB dX8_meanScore_35 ?_
  refine lv_ddiv hX hB dX8_meanScore_36 (fp_mean _ h1 h4) ?_
  exact z_dret C hRT hP hD hS (Nat.le_of_ble_eq_true rfl) (Nat.le_of_ble_eq_true rfl) rfl rfl dX8_meanScore_37

set_option maxHeartbeats 4000000 in
set_option maxRecDepth 100000 in
theorem c_X8_meanScore_e (l : Launch) {E : zEn} (hE : zEok E) (D : zG) (cy : Nat → ClassId) (hL0 : l.stackTraces = false) (hOX : zOutX E) (o0 y0 n0 b0 g0 c0 : Nat) (t : Nat → Nat) (e1 e2 e3 e4 e5 : Int32) (a : Nat → Nat) (h1 : a 2 = 0) (sz : Nat) : vx_Met l yX8_meanScore (zws yX8_meanScore cX8_meanScore 1 (some .double)) { frames := 6, cells := 1, slots := 6, locals := 90 } (zPre E D cy [.ref o0] (zObj o0 (t 0) y0 n0 b0 g0 c0 e1 e2 e3 e4 e5 ++ zTab cy t a) sz) zNo (zX D (zObj o0 (t 0) y0 n0 b0 g0 c0 e1 e2 e3 e4 e5 ++ zTab cy t a) (va_A (zObj o0 (t 0) y0 n0 b0 g0 c0 e1 e2 e3 e4 e5 ++ zTab cy t a) sz) "java/lang/ArithmeticException") 1 6 (va_A (zObj o0 (t 0) y0 n0 b0 g0 c0 e1 e2 e3 e4 e5 ++ zTab cy t a) sz) := by
  refine z_ofx (XC := fun A => zX D (zObj o0 (t 0) y0 n0 b0 g0 c0 e1 e2 e3 e4 e5 ++ zTab cy t a) A "java/lang/ArithmeticException") (by decide +kernel) (Nat.le_of_ble_eq_true rfl) rfl ?_
  intro pG eN sT mI below meth cO A ls C hT hA hP hD hS hE0 hl
  have hX := C.x
  have hB := C.b
  have hz : nI (a 2) = 0 := by rw [h1]; rfl
  refine lv_aload_n hX hB dX8_meanScore_0 rfl (lv_at hl 0 rfl) ?_
  refine fg_X8_10 C hP 0 rfl rfl dX8_meanScore_1 ?_
  refine fg_X8_72 C hP 1 rfl rfl dX8_meanScore_4 ?_
  refine lv_if_ne (tgt := 20) hX hB dX8_meanScore_7 (by decide) (fun c => absurd hz c) (fun _ => ?_)
  exact z_throw C hT hL0 zth_ARI ((hOX _ _ _ hE0).1) ((hOX _ _ _ hE0).2.1 _ (by decide)) ((hOX _ _ _ hE0).2.2 78 (by decide)) hP hD hS hl.1 dX8_meanScore_10 dX8_meanScore_13 dX8_meanScore_14 dX8_meanScore_16 dX8_meanScore_19 ⟨Nat.le_of_ble_eq_true rfl, Nat.le_of_ble_eq_true rfl⟩ ⟨Nat.le_of_ble_eq_true rfl, Nat.le_of_ble_eq_true rfl⟩ ⟨Nat.le_of_ble_eq_true rfl, Nat.le_of_ble_eq_true rfl⟩

set_option maxHeartbeats 4000000 in
set_option maxRecDepth 100000 in
theorem c_X8_tiltRate (l : Launch) {E : zEn} (hE : zEok E) (D : zG) (cy : Nat → ClassId) (o0 y0 n0 b0 g0 c0 : Nat) (t : Nat → Nat) (e1 e2 e3 e4 e5 : Int32) (a : Nat → Nat) (h1 : 1 ≤ a 14) (h4 : a 14 < 2 ^ 24) (sz : Nat) : Met l yX8_tiltRate (zws yX8_tiltRate cX8_tiltRate 1 (some .float)) { frames := 1, cells := 0, slots := 0, locals := 30 } (zPre E D cy [.ref o0] (zObj o0 (t 0) y0 n0 b0 g0 c0 e1 e2 e3 e4 e5 ++ zTab cy t a) sz) (zQf D (zObj o0 (t 0) y0 n0 b0 g0 c0 e1 e2 e3 e4 e5 ++ zTab cy t a) (va_A (zObj o0 (t 0) y0 n0 b0 g0 c0 e1 e2 e3 e4 e5 ++ zTab cy t a) sz) (FP.fdiv (FP.i2f (nI (a 15))) (FP.i2f (nI (a 14))))) 0 0 (va_A (zObj o0 (t 0) y0 n0 b0 g0 c0 e1 e2 e3 e4 e5 ++ zTab cy t a) sz) := by
  refine z_of (Qc := fun A => zQf D (zObj o0 (t 0) y0 n0 b0 g0 c0 e1 e2 e3 e4 e5 ++ zTab cy t a) A (FP.fdiv (FP.i2f (nI (a 15))) (FP.i2f (nI (a 14))))) (by decide +kernel) (Nat.le_of_ble_eq_true rfl) rfl ?_
  intro pG eN sT mI below meth cO A ls C hRT hnm hA hP hD hS hE0 hl
  have hX := C.x
  have hB := C.b
  have hz : ¬ nI (a 14) = 0 := by rw [lI0]; exact fun z => by have := (nI_eq (by omega) (by omega)).mp z; omega
  refine lv_aload_n hX hB dX8_tiltRate_0 rfl (lv_at hl 0 rfl) ?_
  refine fg_X8_10 C hP 0 rfl rfl dX8_tiltRate_1 ?_
  refine fg_X8_221 C hP 1 rfl rfl dX8_tiltRate_4 ?_
  refine fg_X8_239 C hP 12 rfl rfl dX8_tiltRate_7 ?_
  refine lv_if_ne (tgt := 23) hX hB dX8_tiltRate_10 (by decide) (fun _ => ?_) (fun c => absurd (show nI (a 14) = 0 from c) hz)
  refine lv_aload_n hX hB dX8_tiltRate_23 rfl (lv_at hl 0 rfl) ?_
  refine fg_X8_10 C hP 0 rfl rfl dX8_tiltRate_24 ?_
  refine fg_X8_221 C hP 1 rfl rfl dX8_tiltRate_27 ?_
  refine fg_X8_242 C hP 12 rfl rfl dX8_tiltRate_30 ?_
  refine lv_i2f hX hB dX8_tiltRate_33 ?_
  refine lv_aload_n hX hB dX8_tiltRate_34 rfl (lv_at hl 0 rfl) ?_
  refine fg_X8_10 C hP 0 rfl rfl dX8_tiltRate_35 ?_
  refine fg_X8_221 C hP 1 rfl rfl dX8_tiltRate_38 ?_
  refine fg_X8_239 C hP 12 rfl rfl dX8_tiltRate_41 ?_
  refine lv_i2f hX hB dX8_tiltRate_44 ?_
  refine lv_fdiv hX hB dX8_tiltRate_45 (fp_rate h1 h4) ?_
  exact z_fret C hRT hP hD hS (Nat.le_of_ble_eq_true rfl) (Nat.le_of_ble_eq_true rfl) rfl rfl dX8_tiltRate_46

set_option maxHeartbeats 4000000 in
set_option maxRecDepth 100000 in
theorem c_X8_tiltRate_e (l : Launch) {E : zEn} (hE : zEok E) (D : zG) (cy : Nat → ClassId) (hL0 : l.stackTraces = false) (hOX : zOutX E) (o0 y0 n0 b0 g0 c0 : Nat) (t : Nat → Nat) (e1 e2 e3 e4 e5 : Int32) (a : Nat → Nat) (h1 : a 14 = 0) (sz : Nat) : vx_Met l yX8_tiltRate (zws yX8_tiltRate cX8_tiltRate 1 (some .float)) { frames := 6, cells := 1, slots := 6, locals := 90 } (zPre E D cy [.ref o0] (zObj o0 (t 0) y0 n0 b0 g0 c0 e1 e2 e3 e4 e5 ++ zTab cy t a) sz) zNo (zX D (zObj o0 (t 0) y0 n0 b0 g0 c0 e1 e2 e3 e4 e5 ++ zTab cy t a) (va_A (zObj o0 (t 0) y0 n0 b0 g0 c0 e1 e2 e3 e4 e5 ++ zTab cy t a) sz) "java/lang/ArithmeticException") 1 6 (va_A (zObj o0 (t 0) y0 n0 b0 g0 c0 e1 e2 e3 e4 e5 ++ zTab cy t a) sz) := by
  refine z_ofx (XC := fun A => zX D (zObj o0 (t 0) y0 n0 b0 g0 c0 e1 e2 e3 e4 e5 ++ zTab cy t a) A "java/lang/ArithmeticException") (by decide +kernel) (Nat.le_of_ble_eq_true rfl) rfl ?_
  intro pG eN sT mI below meth cO A ls C hT hA hP hD hS hE0 hl
  have hX := C.x
  have hB := C.b
  have hz : nI (a 14) = 0 := by rw [h1]; rfl
  refine lv_aload_n hX hB dX8_tiltRate_0 rfl (lv_at hl 0 rfl) ?_
  refine fg_X8_10 C hP 0 rfl rfl dX8_tiltRate_1 ?_
  refine fg_X8_221 C hP 1 rfl rfl dX8_tiltRate_4 ?_
  refine fg_X8_239 C hP 12 rfl rfl dX8_tiltRate_7 ?_
  refine lv_if_ne (tgt := 23) hX hB dX8_tiltRate_10 (by decide) (fun c => absurd hz c) (fun _ => ?_)
  exact z_throw C hT hL0 zth_ARI ((hOX _ _ _ hE0).1) ((hOX _ _ _ hE0).2.1 _ (by decide)) ((hOX _ _ _ hE0).2.2 251 (by decide)) hP hD hS hl.1 dX8_tiltRate_13 dX8_tiltRate_16 dX8_tiltRate_17 dX8_tiltRate_19 dX8_tiltRate_22 ⟨Nat.le_of_ble_eq_true rfl, Nat.le_of_ble_eq_true rfl⟩ ⟨Nat.le_of_ble_eq_true rfl, Nat.le_of_ble_eq_true rfl⟩ ⟨Nat.le_of_ble_eq_true rfl, Nat.le_of_ble_eq_true rfl⟩
