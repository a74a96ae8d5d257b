/-- the game's own object -/
def zObj (o0 t0 y0 n0 b0 g0 c0 : Nat) (e1 e2 e3 e4 e5 : Int32) : va_W := [(o0, .inr (10, [.ref t0, .ref y0, .ref n0, .int e1, .ref b0, .ref g0, .ref c0, .int e2, .int e3, .int e4, .int e5]))]
/-- the commands that a script does, one after the other, till one fails -/
def zRun (fi : Nat → Option Nat) (fg : Nat → Int32) : Nat → (Nat → Nat) → Nat → Nat × (Nat → Nat)
  | 0, a, i => (i, a)
  | n + 1, a, i => if zAl a ((fi i).getD 0) (fg i) = 0 then (i, a) else zRun fi fg n (zOp a ((fi i).getD 0) (fg i)) (i + 1)
theorem zRun_le (fi : Nat → Option Nat) (fg : Nat → Int32) : ∀ (n : Nat) (a : Nat → Nat) (i : Nat), i ≤ (zRun fi fg n a i).1 ∧ (zRun fi fg n a i).1 ≤ i + n
  | 0, a, i => ⟨Nat.le_refl i, Nat.le_refl i⟩
  | n + 1, a, i => by
    unfold zRun
    split
    · exact ⟨Nat.le_refl i, by show i ≤ i + (n + 1); omega⟩
    · have := zRun_le fi fg n (zOp a ((fi i).getD 0) (fg i)) (i + 1)
      exact ⟨by omega, by omega⟩
theorem zRun_in {fi : Nat → Option Nat} {fg : Nat → Int32} {k : Nat} (hf : ∀ j, j < k → ∃ x, x < 8 ∧ fi j = some x) : ∀ (n : Nat) (a : Nat → Nat) (i b : Nat), i + n ≤ k → b + n ≤ 20000 → zInv b a → zInv (b + n) (zRun fi fg n a i).2
  | 0, a, i, b, _, _, h => h
  | n + 1, a, i, b, hi, hb, h => by
    obtain ⟨x, hx, ex⟩ := hf i (by omega)
    unfold zRun
    rw [ex]
    show zInv _ (if zAl a x (fg i) = 0 then (i, a) else zRun fi fg n (zOp a x (fg i)) (i + 1)).2
    split
    · exact in_up h (by omega) hb
    · rename_i q
      have := zRun_in (fg := fg) hf n (zOp a x (fg i)) (i + 1) (b + 1) (by omega) (by omega) (in_op h (by omega) hx q)
      rw [show b + 1 + n = b + (n + 1) from by omega] at this
      exact this
set_option maxHeartbeats 4000000 in
set_option maxRecDepth 100000 in
theorem c_X8_executeCommands (l : Launch) {E : zEn} (hE : zEok E) (D : zG) (cy : Nat → ClassId) (hO : zOut E) {ad adK adV : Nat → Nat} (hOC : zOutC E ad adK adV) (t : Nat → Nat) (b : Nat) (a : Nat → Nat) (hI : zInv b a) (o0 y0 n0 b0 g0 a0 a1 a2 a3 L p k : Nat) (e1 e2 e3 e4 e5 : Int32) (ft : Nat → Int32) (fi : Nat → Option Nat) (fg : Nat → Int32) (hk : k ≤ 60) (hb : b + k ≤ 20000) (hf : ∀ j, j < k → ∃ x, x < 8 ∧ fi j = some x) (sz : Nat) : Met l yX8_executeCommands (zws yX8_executeCommands cX8_executeCommands 2 (some .int)) { frames := 6, cells := 0, slots := 0, locals := 130 } (zPre E D cy [.ref o0] (zObj o0 (t 0) y0 n0 b0 g0 a0 e1 e2 e3 e4 e5 ++ zTab cy t a ++ zScw cy ad a0 a1 a2 a3 L p k ft fi fg) sz) (zQi D (zObj o0 (t 0) y0 n0 b0 g0 a0 e1 e2 e3 e4 e5 ++ zTab cy t (zRun fi fg k a 0).2 ++ zScw cy ad a0 a1 a2 a3 L p k ft fi fg) (va_A (zObj o0 (t 0) y0 n0 b0 g0 a0 e1 e2 e3 e4 e5 ++ zTab cy t a ++ zScw cy ad a0 a1 a2 a3 L p k ft fi fg) sz) (nI (zRun fi fg k a 0).1)) 0 0 (va_A (zObj o0 (t 0) y0 n0 b0 g0 a0 e1 e2 e3 e4 e5 ++ zTab cy t a ++ zScw cy ad a0 a1 a2 a3 L p k ft fi fg) sz) := by
  refine z_of (Qc := fun A => zQi D (zObj o0 (t 0) y0 n0 b0 g0 a0 e1 e2 e3 e4 e5 ++ zTab cy t (zRun fi fg k a 0).2 ++ zScw cy ad a0 a1 a2 a3 L p k ft fi fg) A (nI (zRun fi fg k a 0).1)) (by decide +kernel) (Nat.le_of_ble_eq_true rfl) rfl ?_
  intro pG eN sT mI below meth cO A ls C hRT hnm hA hP hD hS hE0 hl
  have hX := C.x
  have hB := C.b
  have loop : ∀ (n i : Nat) (a' : Nat → Nat), i + n = k → zInv (b + i) a' → zRun fi fg n a' i = zRun fi fg k a 0 → ∀ (H : Heap) (locs : List Loc), va_P D vwCl (zObj o0 (t 0) y0 n0 b0 g0 a0 e1 e2 e3 e4 e5 ++ zTab cy t a' ++ zScw cy ad a0 a1 a2 a3 L p k ft fi fg) H → va_D A (zObj o0 (t 0) y0 n0 b0 g0 a0 e1 e2 e3 e4 e5 ++ zTab cy t a' ++ zScw cy ad a0 a1 a2 a3 L p k ft fi fg) → va_S A sT.heap H locs → ∀ (ls : Array Slot), lv_has ls 2 [(1, .int (nI i)), (0, .ref o0)] → W pG l eN { frames := 6, cells := 0, slots := 0, locals := 130 } sT mI ([.ref o0] : List Value).toArray below meth cO H locs 0 0 (MQ below (zQi D (zObj o0 (t 0) y0 n0 b0 g0 a0 e1 e2 e3 e4 e5 ++ zTab cy t (zRun fi fg k a 0).2 ++ zScw cy ad a0 a1 a2 a3 L p k ft fi fg) A (nI (zRun fi fg k a 0).1)) ([.ref o0] : List Value).toArray sT 0 0 A) (F0 mI 2 ls []) := by
    intro n
    induction n with
    | zero =>
      intro i a' hi hI' hz H locs hP hD hS ls hl
      refine lv_iload_n hX hB dX8_executeCommands_2 rfl (lv_at hl 0 rfl) ?_
      refine lv_aload_n hX hB dX8_executeCommands_3 rfl (lv_at hl 1 rfl) ?_
      refine fg_X8_43 C hP 0 rfl rfl dX8_executeCommands_4 ?_
      refine fg_X8_306 C hP 14 rfl rfl dX8_executeCommands_7 ?_
      refine lv_icmp_ge (tgt := 47) hX hB dX8_executeCommands_10 (by decide) (fun c1 => ?_) (fun c1 => absurd ((nI_leI (by omega) (by omega)).mpr (by omega) : nI k ≤ nI i) c1)
      refine lv_iload_n hX hB dX8_executeCommands_47 rfl (lv_at hl 0 rfl) ?_
      exact z_iret C hRT hP hD hS (Nat.le_of_ble_eq_true rfl) (Nat.le_of_ble_eq_true rfl) (by rw [← hz]; rfl) (by rw [← hz]; rfl) dX8_executeCommands_48
    | succ n ih =>
      intro i a' hi hI' hz H locs hP hD hS ls hl
      obtain ⟨x, hx, ex⟩ := hf i (by omega)
      have hz' : zRun fi fg (n + 1) a' i = if zAl a' x (fg i) = 0 then (i, a') else zRun fi fg n (zOp a' x (fg i)) (i + 1) := by rw [zRun, ex]; rfl
      refine lv_iload_n hX hB dX8_executeCommands_2 rfl (lv_at hl 0 rfl) ?_
      refine lv_aload_n hX hB dX8_executeCommands_3 rfl (lv_at hl 1 rfl) ?_
      refine fg_X8_43 C hP 0 rfl rfl dX8_executeCommands_4 ?_
      refine fg_X8_306 C hP 14 rfl rfl dX8_executeCommands_7 ?_
      refine lv_icmp_ge (tgt := 47) hX hB dX8_executeCommands_10 (by decide) (fun c1 => absurd ((nI_leI (by omega) (by omega)).mp c1) (by omega)) (fun c1 => ?_)
      refine lv_aload_n hX hB dX8_executeCommands_13 rfl (lv_at hl 1 rfl) ?_
      refine fg_X8_10 C hP 0 rfl rfl dX8_executeCommands_14 ?_
      refine lv_aload_n hX hB dX8_executeCommands_17 rfl (lv_at hl 1 rfl) ?_
      refine fg_X8_43 C hP 0 rfl rfl dX8_executeCommands_18 ?_
      refine fg_X8_366 C hP 14 rfl rfl dX8_executeCommands_21 ?_
      refine lv_iload_n hX hB dX8_executeCommands_24 rfl (lv_at hl 0 rfl) ?_
      refine z_qald C hP 16 7 rfl rfl (k := i) (zi_i i) (by omega) (by decide) (r := some (ad x)) (by rw [ex]; rfl) dX8_executeCommands_25 ?_
      refine lv_aload_n hX hB dX8_executeCommands_26 rfl (lv_at hl 1 rfl) ?_
      refine fg_X8_43 C hP 0 rfl rfl dX8_executeCommands_27 ?_
      refine fg_X8_370 C hP 14 rfl rfl dX8_executeCommands_30 ?_
      refine lv_iload_n hX hB dX8_executeCommands_33 rfl (lv_at hl 0 rfl) ?_
      refine z_iald C hP 17 rfl (k := i) (zi_i i) (by omega) (by decide) rfl dX8_executeCommands_34 ?_
      refine z_callVi (isC := [1, 2, 3, 4, 5, 6, 7, 8, 9, 10, 11, 12, 13]) (isR := [0, 14, 15, 16, 17]) (isO := [0, 5, 6, 7, 8, 9, 10, 11, 12, 13, 14, 15, 16, 17, 1, 2, 3, 4]) () (fun _ => zTab cy t (if zAl a' x (fg i) = 0 then a' else zOp a' x (fg i))) (fun _ => (zObj o0 (t 0) y0 n0 b0 g0 a0 e1 e2 e3 e4 e5 ++ zTab cy t (if zAl a' x (fg i) = 0 then a' else zOp a' x (fg i)) ++ zScw cy ad a0 a1 a2 a3 L p k ft fi fg)) (fun _ => if zAl a' x (fg i) = 0 then 0 else 1) (c_X6_execute l hE D cy hO hOC t (b + i) a' hI' (by omega) x hx (fg i)) hE C zs_X8_373 ⟨Nat.le_of_ble_eq_true rfl, Nat.le_of_ble_eq_true rfl⟩ hP hD hS hA hE0 ⟨rfl, rfl, rfl, by decide, rfl, rfl, rfl⟩ 1 rfl rfl rfl rfl hl.1 (Nat.le_of_ble_eq_true rfl) rfl dX8_executeCommands_35 ⟨Nat.le_of_ble_eq_true rfl, Nat.le_of_ble_eq_true rfl⟩ (fun o H locs eo hP hD hS => ?_)
      refine lv_if_eq (tgt := 47) hX hB dX8_executeCommands_38 (by decide) (fun c2 => ?_) (fun c2 => ?_)
      · have q : zAl a' x (fg i) = 0 := by
          by_cases q : zAl a' x (fg i) = 0
          · exact q
          · rw [if_neg q] at c2; exact absurd c2 (by decide)
        rw [if_pos q] at hP hD
        rw [hz', if_pos q] at hz
        refine lv_iload_n hX hB dX8_executeCommands_47 rfl (lv_at hl 0 rfl) ?_
        exact z_iret C hRT hP hD hS (Nat.le_of_ble_eq_true rfl) (Nat.le_of_ble_eq_true rfl) (by rw [← hz]) (by rw [← hz]) dX8_executeCommands_48
      · have q : ¬ zAl a' x (fg i) = 0 := fun z => c2 (by rw [if_pos z])
        rw [if_neg q] at hP hD
        rw [hz', if_neg q] at hz
        refine lv_iinc (v := nI (i + 1)) (lv' := [(1, .int (nI (i + 1))), (0, .ref o0)]) hX hB dX8_executeCommands_41 hl (k := 0) rfl (nI_1 i) (by decide) rfl (fun ls hl => ?_)
        refine lv_goto (tgt := 2) hX hB dX8_executeCommands_44 (by decide) ?_
        exact ih (i + 1) _ (by omega) (in_op (b := b + i) hI' (by omega) hx q) hz H locs hP hD hS ls hl
  refine lv_iconst (v := 0) hX hB dX8_executeCommands_0 (by decide) ?_
  refine lv_istore_n (lv' := [(1, .int (nI 0)), (0, .ref o0)]) hX hB dX8_executeCommands_1 rfl hl (by decide) rfl (fun ls hl => ?_)
  exact loop k 0 a (by omega) hI rfl _ _ hP hD hS ls hl