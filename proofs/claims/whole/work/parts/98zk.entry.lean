/-! the law from its entry -/
section KS
variable {args : Array Value} {s : State}
theorem ka_p {ty : FieldType} (h : (Cond.arrayClass ty).before args s = true) (hr : ∀ cA, s.vm.findClass ("[" ++ ty.toString) = some cA → va_RA s cA ty) : ∃ cA, ArrOfT s cA ty ∧ va_RA s cA ty := by
  obtain ⟨cA, k, comp, h1, h2, h3⟩ := Cond.arrayClass_spec (args := args) (first := s) (o := none) (s := s) (idx := []) h
  exact ⟨cA, fun n z => ⟨(fun k h => by cases h), k, h2, comp, h3⟩, hr cA h1⟩
theorem ka_o {C : String} (h : va_AO C s) : ∃ cA, ArrOfT s cA (.object C) ∧ va_RA s cA (.object C) := by
  obtain ⟨comp, cA, k, h1, h2, h3, h4, h5⟩ := Cond.arrayOver_spec h
  exact ⟨cA, fun n z => ⟨(fun k h => by cases h), k, h3, comp, h4⟩, k, comp, h3, h4, h1, h5⟩
set_option maxRecDepth 100000 in
theorem zK_start (hts : ∀ w ∈ lw_tbl, w.before args s = true) : ∃ (D : zG) (cy : Nat → ClassId), va_K D vwCl (zT cy) s := by
  obtain ⟨c0, i0, k0⟩ := u_known (C := RJ0) (T := TJ0) (N := 4) (n := 4) hts (by decide +kernel) (hts _ (by decide +kernel))
  obtain ⟨c1, i1, k1⟩ := u_known (C := RJ4) (T := TJ4) (N := 4) (n := 4) hts (by decide +kernel) (hts _ (by decide +kernel))
  obtain ⟨c2, i2, k2⟩ := u_known (C := RJx00060) (T := TJx00060) (N := 6) (n := 6) hts (by decide +kernel) (hts _ (by decide +kernel))
  obtain ⟨c3, i3, k3⟩ := u_known (C := RJx7c733) (T := TJx7c733) (N := 6) (n := 6) hts (by decide +kernel) (hts _ (by decide +kernel))
  obtain ⟨c4, i4, k4⟩ := u_known (C := RX1) (T := TX1) (N := 11) (n := 11) hts (by decide +kernel) (hts _ (by decide +kernel))
  obtain ⟨c5, i5, k5⟩ := u_known (C := RX3) (T := TX3) (N := 3) (n := 3) hts (by decide +kernel) (hts _ (by decide +kernel))
  obtain ⟨c6, i6, k6⟩ := u_known (C := RX4) (T := TX4) (N := 4) (n := 4) hts (by decide +kernel) (hts _ (by decide +kernel))
  obtain ⟨c7, i7, k7⟩ := u_known (C := RX5) (T := TX5) (N := 6) (n := 6) hts (by decide +kernel) (hts _ (by decide +kernel))
  obtain ⟨c8, i8, k8⟩ := u_known (C := RX6) (T := TX6) (N := 10) (n := 10) hts (by decide +kernel) (hts _ (by decide +kernel))
  obtain ⟨c9, i9, k9⟩ := u_known (C := RX7) (T := TX7) (N := 4) (n := 4) hts (by decide +kernel) (hts _ (by decide +kernel))
  obtain ⟨c10, i10, k10⟩ := u_known (C := RX8) (T := TX8) (N := 11) (n := 11) hts (by decide +kernel) (hts _ (by decide +kernel))
  obtain ⟨c11, i11, k11⟩ := u_known (C := RX9) (T := TX9) (N := 20) (n := 20) hts (by decide +kernel) (hts _ (by decide +kernel))
  obtain ⟨a0, b0⟩ := ka_p (ty := .int) (hts _ (by decide +kernel)) (fun _ h => h)
  obtain ⟨a1, b1⟩ := ka_p (ty := .boolean) (hts _ (by decide +kernel)) (fun _ h => h)
  obtain ⟨a2, b2⟩ := ka_p (ty := .byte) (hts _ (by decide +kernel)) (fun _ h => h)
  obtain ⟨a3, b3⟩ := ka_p (ty := .char) (hts _ (by decide +kernel)) (fun _ h => h)
  obtain ⟨a4, b4⟩ := ka_p (ty := .long) (hts _ (by decide +kernel)) (fun _ h => h)
  obtain ⟨a5, b5⟩ := ka_p (ty := .double) (hts _ (by decide +kernel)) (fun _ h => h)
  obtain ⟨a6, b6⟩ := ka_o (C := "PinballScorer$Table") (ns_F hts).aoT
  obtain ⟨a7, b7⟩ := ka_o (C := "PinballScorer$Command") (ns_F hts).aoM
  refine ⟨(fun k => match k with | 0 => c0 | 1 => c1 | 2 => c2 | 3 => c3 | 4 => c4 | 5 => c5 | 6 => c6 | 7 => c7 | 8 => c8 | 9 => c9 | 10 => c10 | _ => c11, fun k => match k with | 0 => i0 | 1 => i1 | 2 => i2 | 3 => i3 | 4 => i4 | 5 => i5 | 6 => i6 | 7 => i7 | 8 => i8 | 9 => i9 | 10 => i10 | _ => i11), fun k => match k with | 0 => a0 | 1 => a1 | 2 => a2 | 3 => a3 | 4 => a4 | 5 => a5 | 6 => a6 | _ => a7, ?_, ?_⟩
  · intro k q hq
    match k, hq with
    | 0, hq => cases hq; exact k0
    | 1, hq => cases hq; exact k1
    | 2, hq => cases hq; exact k2
    | 3, hq => cases hq; exact k3
    | 4, hq => cases hq; exact k4
    | 5, hq => cases hq; exact k5
    | 6, hq => cases hq; exact k6
    | 7, hq => cases hq; exact k7
    | 8, hq => cases hq; exact k8
    | 9, hq => cases hq; exact k9
    | 10, hq => cases hq; exact k10
    | 11, hq => cases hq; exact k11
    | k + 12, hq => simp [vwCl] at hq
  · intro k q hq
    match k, hq with
    | 0, hq => cases hq; exact b0
    | 1, hq => cases hq; exact b1
    | 2, hq => cases hq; exact b2
    | 3, hq => cases hq; exact b3
    | 4, hq => cases hq; exact b4
    | 5, hq => cases hq; exact b5
    | 6, hq => cases hq; exact b6
    | 7, hq => cases hq; exact b7
    | k + 8, hq => simp [zT] at hq
end KS
/-! the world that the constructors leave, in the law's order -/
def zW0 (o0 : Nat) (a : Nat → Nat) (h0 : Nat) (a' : Nat → Nat) (oo od : Nat) : Nat → Nat := fun i => match i with
  | 0 => o0 | 1 => a 13 | 2 => a 14 | 3 => a 145 | 4 => a 146 | 5 => a 147 | 6 => a 148 | 7 => a 149 | 8 => a 151 | 9 => a 152 | 10 => a 153 | 11 => a 154
  | 20 => h0 | 21 => a' 0 | 22 => a' 1 | 23 => a' 2 | 24 => a' 3 | 25 => a' 4 | 26 => a' 5 | 27 => a' 6 | 28 => a' 7 | 29 => a' 8 | 30 => oo | 31 => od | _ => 0
def zTt (a : Nat → Nat) : Nat → Nat := zCn (a 0) (fun i => a (i + 1))
def zTq (a : Nat → Nat) : Nat → Nat := zCn (a 132) (fun i => a (i + 133))
def zTs (a : Nat → Nat) : Nat → Nat → Nat := fun k i => a (1 + 13 * k + i + 14)
def zF0 (cy : Nat → ClassId) (ad : Nat → Nat) (w : Nat → Nat) (a : Nat → Nat) : Nat → va_W := fun k => match k with
  | 0 => zOb w (zTt a) (zTq a) 0 0 0 0 0
  | 1 => zTab cy (zTt a) (fun _ => 0)
  | 2 => zHis cy (w 1) (w 2) (nI 0) (nI 0) (zUp (fun i => a (i + 14)))
  | 3 => zTab cy (zTq a) (fun _ => 0)
  | 4 => zBl cy w 1 0 0 0 0 0 0 0 (fun _ => 0) (fun _ => 0) (fun _ => 0)
  | 5 => zSBw cy (w 7) (a 150, 16, fun _ => 0, 0) 0
  | 6 => zScw cy ad (w 8) (w 9) (w 10) (w 11) 0 0 0 (fun _ => 0) (fun _ => none) (fun _ => 0)
  | 10 => zTab cy (zTs a 0) (fun _ => 0)
  | 11 => zTab cy (zTs a 1) (fun _ => 0)
  | 12 => zTab cy (zTs a 2) (fun _ => 0)
  | 13 => zTab cy (zTs a 3) (fun _ => 0)
  | 14 => zTab cy (zTs a 4) (fun _ => 0)
  | 15 => zTab cy (zTs a 5) (fun _ => 0)
  | 16 => zTab cy (zTs a 6) (fun _ => 0)
  | 17 => zTab cy (zTs a 7) (fun _ => 0)
  | 18 => zTab cy (zTs a 8) (fun _ => 0)
  | 20 => zMo w 0 (nI 0) (-1) (-1) 0 (nI 0) (nI 0) 0 0 0 0
  | 21 => zAr cy (w 21) 64 (zF (fun _ => 0))
  | 22 => zAr cy (w 22) 64 (fun _ => 0)
  | 23 => zAr cy (w 23) 64 (fun _ => 0)
  | 24 => zAr cy (w 24) 64 (fun _ => 0)
  | 25 => zAr cy (w 25) 512 (fun _ => 0)
  | 26 => zAr cy (w 26) 120 (fun _ => 0)
  | 27 => zAr cy (w 27) 60 (fun _ => 0)
  | 28 => zAr cy (w 28) 32 (fun _ => 0)
  | 29 => zAr cy (w 29) 32 (fun _ => 0)
  | 30 => zOl cy (w 30) (fun _ => 0)
  | 31 => zOd cy (w 31) (fun _ => 0)
  | _ => []
abbrev zOrd : List Nat := [0, 1, 2, 10, 11, 12, 13, 14, 15, 16, 17, 18, 3, 4, 5, 6, 20, 21, 22, 23, 24, 25, 26, 27, 28, 29, 30, 31]
set_option maxRecDepth 100000 in
set_option maxHeartbeats 4000000 in
theorem zF0_eq (cy : Nat → ClassId) (ad : Nat → Nat) (o0 : Nat) (a : Nat → Nat) (h0 : Nat) (a' : Nat → Nat) (oo od : Nat) : zX8i cy o0 a ++ q_X9_init cy h0 a' ++ zOl cy oo (fun _ => 0) ++ zOd cy od (fun _ => 0) = zWl (zF0 cy ad (zW0 o0 a h0 a' oo od) a) zOrd := rfl
theorem zF0_all (cy : Nat → ClassId) (ad w : Nat → Nat) (a : Nat → Nat) : zAll cy ad w (zTt a) (zTq a) (zTs a) 0 (zF0 cy ad w a) := by
  refine ⟨fun _ => 0, 0, 0, 0, 0, 0, ⟨0, 0, 0, 0, -1, -1, 0, 0, 0, 0, rfl, rfl, Or.inl ⟨rfl, rfl⟩, Or.inl ⟨rfl, rfl⟩⟩, ⟨rfl, rfl, in_0 (fun _ _ => rfl)⟩, ⟨0, fun _ _ => 0, fun _ _ => 0, zUp (fun i => a (i + 14)), fun _ => 0, by omega, by omega, rfl, fun k hk => (zUp_at _ k hk).trans rfl, fun k hk => ?_, rfl, fun i hi => absurd hi (Nat.not_lt_zero _), fun i hi => absurd hi (Nat.not_lt_zero _), fun i hi => absurd hi (Nat.not_lt_zero _)⟩, ⟨Or.inl rfl, fun _ => 0, fun _ => 0, rfl, rfl, fun h => absurd h (by decide)⟩, ⟨1, 0, 0, 0, 0, 0, 0, 0, fun _ => 0, fun _ => 0, fun _ => 0, rfl⟩, ⟨(a 150, 16, fun _ => 0, 0), fun _ => 0, fun _ => 0, by omega, rfl, ⟨⟨Nat.le_refl 16, (by show 16 ≤ 300; omega), Or.inl rfl, ?_⟩, Nat.zero_le _, fun j hj => absurd hj (Nat.not_lt_zero _)⟩, rfl, fun j hj => absurd hj (Nat.not_lt_zero _)⟩, ⟨0, 0, fun _ => 0, fun _ => none, fun _ => 0, fun _ => 0, fun _ => 0, fun _ => 0, by omega, rfl, rfl, rfl, rfl, fun j hj => absurd hj (Nat.not_lt_zero _)⟩, ⟨fun _ => 0, fun _ => 0, rfl, rfl⟩, ⟨_, rfl⟩, ⟨_, rfl⟩⟩
  · obtain rfl | rfl | rfl | rfl | rfl | rfl | rfl | rfl | rfl : k = 0 ∨ k = 1 ∨ k = 2 ∨ k = 3 ∨ k = 4 ∨ k = 5 ∨ k = 6 ∨ k = 7 ∨ k = 8 := by omega
    all_goals rfl
  · intro j
    show fits .byte (.int 0) = true
    decide
section NEW2
variable {p : Program} {l : Launch} {e : Env} {R : Room} {s : State} {m : MethodId} {args : Array Value} {below : List Frame} {meth : Method} {c : Code} {H : Heap} {locs : List Loc} {cells slots : Nat} {Q : State → Prop}
variable {cc : ByteArray} {own : String} {nL : Nat} {D : zG} {cy : Nat → ClassId} {E : zEn} {A : Nat → Prop} {wv : va_W} {pc : Nat} {ls : Array Slot} {rest st0 : List Value}
theorem z_newL (C : zC p s m args meth c cc own nL D cy) (hP : va_P D vwCl wv H) (hD : va_D A wv) (hS : va_S A s.heap H locs) (hA : ∀ q, s.heap.size ≤ q → A q) {n : Int32} (N' : Nat) (hn : ¬ n < 0) (hN : n.toNatClampNeg = N') (hb : N' * 8 ≤ 536870912) (hf : cells + 1 ≤ R.cells ∧ slots + N' ≤ R.slots) (hdg : decode cc pc = .ok (.newarray .long, 2))
    (kk : ∀ (q : Nat) (H1 : Heap), va_P D vwCl (wv ++ [(q, .inl (cy 4, N', .inr (.inl (fun _ => 0))))]) H1 → va_D A (wv ++ [(q, .inl (cy 4, N', .inr (.inl (fun _ => 0))))]) → va_S A s.heap H1 locs → W p l e R s m args below meth c H1 locs (cells + 1) (slots + N') Q (F0 m (pc + 2) ls (.ref q :: rest))) : W p l e R s m args below meth c H locs cells slots Q (F0 m pc ls (.int n :: rest)) := by
  refine va_newa C.x C.b (atype := .long) (C.ts (.arrayClass .long) zm6) (ty := .long) rfl C.K hP hD hS hA (a0 := (N', .inr (.inl (fun _ => 0)))) (fun _ => rfl) hn hN hb hf.1 hf.2 hdg (fun q cA H1 hK hP1 hD1 hS1 => ?_)
  obtain rfl := zcy_long C hK
  exact kk q H1 hP1 hD1 hS1
theorem z_newD (C : zC p s m args meth c cc own nL D cy) (hP : va_P D vwCl wv H) (hD : va_D A wv) (hS : va_S A s.heap H locs) (hA : ∀ q, s.heap.size ≤ q → A q) {n : Int32} (N' : Nat) (hn : ¬ n < 0) (hN : n.toNatClampNeg = N') (hb : N' * 8 ≤ 536870912) (hf : cells + 1 ≤ R.cells ∧ slots + N' ≤ R.slots) (hdg : decode cc pc = .ok (.newarray .double, 2))
    (kk : ∀ (q : Nat) (H1 : Heap), va_P D vwCl (wv ++ [(q, .inl (cy 5, N', .inr (.inr (.inr (.inl (fun _ => 0))))))]) H1 → va_D A (wv ++ [(q, .inl (cy 5, N', .inr (.inr (.inr (.inl (fun _ => 0))))))]) → va_S A s.heap H1 locs → W p l e R s m args below meth c H1 locs (cells + 1) (slots + N') Q (F0 m (pc + 2) ls (.ref q :: rest))) : W p l e R s m args below meth c H locs cells slots Q (F0 m pc ls (.int n :: rest)) := by
  refine va_newa C.x C.b (atype := .double) (C.ts (.arrayClass .double) zm7) (ty := .double) rfl C.K hP hD hS hA (a0 := (N', .inr (.inr (.inr (.inl (fun _ => 0)))))) (fun _ => rfl) hn hN hb hf.1 hf.2 hdg (fun q cA H1 hK hP1 hD1 hS1 => ?_)
  obtain rfl := zcy_double C hK
  exact kk q H1 hP1 hD1 hS1
end NEW2
set_option maxHeartbeats 4000000 in
set_option maxRecDepth 100000 in
/-- from the entry, for every script of at most 1536 ints, the law comes to its end with true -/
theorem whole_start {p : Program} {e : Env} {s : State} {m : MethodId} {below : List Frame} {meth : Method} {c : Code} (l : Launch) (hflags : l.flags = flags0) {b L : Nat} {xs : Nat → Int32} (hL : L ≤ 1536) (C0 : lw_At p s m meth c b L xs) : W p l e room_1 s m #[Value.ref b] below meth c s.heap [] 0 0 (lw_Z below #[Value.ref b] s) (entryFrame m ([Value.ref b] : List Value).toArray 9) := by
  obtain ⟨hx, hb, hr, hml, hown, hts, hXs, hbl, hlocks, hgv⟩ := id C0
  have hL0 : l.stackTraces = false := by unfold Launch.stackTraces; rw [hflags]; decide +kernel
  obtain ⟨D, cy, hK⟩ := zK_start hts
  have hA0 : ∀ a : Nat, a < s.heap.size → ¬ (fun q : Nat => s.heap.size ≤ q) a := fun a h => Nat.not_le.mpr h
  obtain ⟨ad, adK, adV, hE0⟩ := ns_E (A := fun q : Nat => s.heap.size ≤ q) hgv hts hA0
  have hE := zE_ok ad adK adV
  have hA : ∀ q : Nat, s.heap.size ≤ q → (fun q : Nat => s.heap.size ≤ q) q := fun _ h => h
  have C : zC p s m #[Value.ref b] meth c cL_law RL 9 D cy := ⟨hx, hb, hml, hown, fun w h => hts w (List.mem_filter.mp h).1, hK, hlocks⟩
  have hS : va_S (fun q : Nat => s.heap.size ≤ q) s.heap s.heap [] := va_S.rf
  have hP : va_P D vwCl [] s.heap := fun k q h => by simp at h
  have hD : va_D (fun q : Nat => s.heap.size ≤ q) [] := ⟨fun i j p q h => by simp at h, fun k q h => by simp at h⟩
  have hl := lv_entry ([.ref b]) (n := 9) (Nat.le_of_ble_eq_true rfl)
  rw [lg_entry_eq]
  generalize (lg_sl ([.ref b]) ++ List.replicate (9 - (lg_sl ([.ref b])).length) Slot.unset).toArray = ls at hl ⊢
  have hl : lv_has ls 9 [(0, .ref b)] := hl
  refine z_new C (ci := 10) rfl ziX8 tyX8 tyX8_ok zm0 zm1 zm2 hP hD hS hA [.null, .null, .null, .int 0, .null, .null, .null, .int 0, .int 0, .int 0, .int 0] zdf_X8 ⟨Nat.le_of_ble_eq_true rfl, Nat.le_of_ble_eq_true rfl⟩ dL_law_0 (fun q0 H hP hD hS => ?_)
  refine lv_dup C.x C.b dL_law_3 rfl ?_
  refine z_callI (isC := List.range' 0 1) (isR := List.range 0) (isO := List.range 156) (zX8i cy q0) (zX8i cy q0) (c_X8_init l hE D cy zE_F zE_B q0) hE C zs_L_160 ⟨Nat.le_of_ble_eq_true rfl, Nat.le_of_ble_eq_true rfl⟩ hP hD hS hA hE0 (fun _ => zFr_end [] _ _) rfl hl.1 (Nat.le_of_ble_eq_true rfl) rfl dL_law_4 ⟨Nat.le_of_ble_eq_true rfl, Nat.le_of_ble_eq_true rfl⟩ (fun a H locs hP hD hS => ?_)
  refine lv_astore_n (lv' := [(1, .ref q0), (0, .ref b)]) C.x C.b dL_law_7 rfl hl (by decide) rfl (fun ls hl => ?_)
  refine z_new C (ci := 11) rfl ziX9 tyX9 tyX9_ok zm3 zm4 zm5 hP hD hS hA [.null, .null, .null, .null, .null, .int 0, .int 0, .int 0, .int 0, .int 0, .null, .int 0, .null, .null, .null, .int 0, .int 0, .int 0, .int 0, .int 0] zdf_X9 ⟨Nat.le_of_ble_eq_true rfl, Nat.le_of_ble_eq_true rfl⟩ dL_law_8 (fun h0 H hP hD hS => ?_)
  refine lv_dup C.x C.b dL_law_11 rfl ?_
  refine z_callI (isC := List.range' 156 1) (isR := List.range 156) (isO := List.range 166) (q_X9_init cy h0) (fun a' => zX8i cy q0 a ++ q_X9_init cy h0 a') (c_X9_init l hE D cy h0) hE C zs_L_163 ⟨Nat.le_of_ble_eq_true rfl, Nat.le_of_ble_eq_true rfl⟩ hP hD hS hA hE0 (fun _ => zFr_end (zX8i cy q0 a) _ _) rfl hl.1 (Nat.le_of_ble_eq_true rfl) rfl dL_law_12 ⟨Nat.le_of_ble_eq_true rfl, Nat.le_of_ble_eq_true rfl⟩ (fun a' H locs hP hD hS => ?_)
  refine lv_astore_n (lv' := [(2, .ref h0), (1, .ref q0), (0, .ref b)]) C.x C.b dL_law_15 rfl hl (by decide) rfl (fun ls hl => ?_)
  refine lv_iconst (v := 1) C.x C.b dL_law_16 (by decide) ?_
  refine z_newL C hP hD hS hA 1 (by decide) (by decide) (by decide) ⟨Nat.le_of_ble_eq_true rfl, Nat.le_of_ble_eq_true rfl⟩ dL_law_17 (fun oo H hP hD hS => ?_)
  refine lv_astore_n (lv' := [(3, .ref oo), (2, .ref h0), (1, .ref q0), (0, .ref b)]) C.x C.b dL_law_19 rfl hl (by decide) rfl (fun ls hl => ?_)
  refine lv_iconst (v := 1) C.x C.b dL_law_20 (by decide) ?_
  refine z_newD C hP hD hS hA 1 (by decide) (by decide) (by decide) ⟨Nat.le_of_ble_eq_true rfl, Nat.le_of_ble_eq_true rfl⟩ dL_law_21 (fun od H hP hD hS => ?_)
  refine lv_astore (lv' := [(4, .ref od), (3, .ref oo), (2, .ref h0), (1, .ref q0), (0, .ref b)]) C.x C.b dL_law_23 hl (by decide) rfl (fun ls hl => ?_)
  refine lv_iconst (v := 0) C.x C.b dL_law_25 (by decide) ?_
  refine lv_istore (lv' := [(5, .int 0), (4, .ref od), (3, .ref oo), (2, .ref h0), (1, .ref q0), (0, .ref b)]) C.x C.b dL_law_26 hl (by decide) rfl (fun ls hl => ?_)
  have hPe : va_P D vwCl (zWl (zF0 cy ad (zW0 q0 a h0 a' oo od) a) zOrd) H := by rw [← zF0_eq]; exact hP
  have hDe : va_D (fun q : Nat => s.heap.size ≤ q) (zWl (zF0 cy ad (zW0 q0 a h0 a' oo od) a) zOrd) := by rw [← zF0_eq]; exact hD
  have hpm : (zWl (zF0 cy ad (zW0 q0 a h0 a' oo od) a) zOrd).Perm (zWl (zF0 cy ad (zW0 q0 a h0 a' oo od) a) zLs) := zWl_perm _ (by decide)
  have hP2 := (zPm_mem hpm).1 D vwCl _ hPe
  have hD2 := (zPm_mem hpm).2 _ hDe
  refine W.widen (k := 300 + 1000 * 0) (n := 4000 + 14000 * 0) (Nat.le_of_ble_eq_true rfl) (Nat.le_of_ble_eq_true rfl) ?_
  exact law_loop (w := zW0 q0 a h0 a' oo od) hE hL0 zE_X zE_N zE_F zE_B zE_C C hr hE0 hXs hbl hL 513 0 _ H locs ls rfl (Nat.zero_le _) ⟨_, rfl, zF0_all cy ad (zW0 q0 a h0 a' oo od) a⟩ hP2 hD2 hS (lv_sub hl [0, 5, 4, 3, 2, 1] rfl)
