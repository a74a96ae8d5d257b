/-! Strings and commands that stand outside: the enum's words, the table of its constants -/
def zlens : List Nat := [6, 5, 5, 7, 7, 6, 5, 4]
def zbyts : List (List Int32) := [[112, 108, 97, 121, 101, 114], [115, 116, 97, 114, 116], [108, 97, 110, 101, 32], [98, 117, 109, 112, 101, 114, 32], [116, 97, 114, 103, 101, 116, 32], [110, 117, 100, 103, 101, 32], [100, 114, 97, 105, 110], [113, 117, 105, 116]]
def zln (i : Nat) : Nat := zlens.getD i 0
def zch (i j : Nat) : Int32 := (zbyts.getD i []).getD j 0
theorem zch_le0 : ∀ i, i < 8 → ∀ j, j < 7 → zch i j = nI (zn (zch i j)) ∧ zn (zch i j) ≤ 127 := by decide +kernel
theorem zln_le : ∀ i, i < 8 → 4 ≤ zln i ∧ zln i ≤ 7 := by decide +kernel
theorem zch_le {i j : Nat} (hi : i < 8) (hj : j < zln i) : zle (zch i j) 127 := zch_le0 i hi j (by have := zln_le i hi; omega)
def zCm (ad adK adV : Nat → Nat) (A : Nat → Prop) (U : State) (H : Heap) : Prop :=
  (∃ tC : Nat, va_Z "PinballScorer" "COMMANDS" "[LPinballScorer$Command;" (.ref tC) A U H ∧ va_T (.object "PinballScorer$Command") tC 8 (fun j => .ref (ad j)) A U H) ∧
  (∃ tS : Nat, va_Z "PinballScorer$1" "$SwitchMap$PinballScorer$Command" "[I" (.ref tS) A U H ∧ va_T .int tS 8 (fun j => .int (if j < 7 then nI (j + 1) else 0)) A U H) ∧
  (∀ i, i < 8 → va_O "PinballScorer$Command" (ad i) A U H ∧ va_OF "java/lang/Enum" "ordinal" "I" (.int (nI i)) (ad i) A U H ∧ va_OF "PinballScorer$Command" "word" "Ljava/lang/String;" (.ref (adK i)) (ad i) A U H ∧ va_OF "PinballScorer$Command" "takesDigit" "Z" (.int (if 2 ≤ i ∧ i < 6 then 1 else 0)) (ad i) A U H) ∧
  vk_S 8 zlens zbyts adK adV A U H ∧ va_Nw (.fieldLinkNest RX5 62 "PinballScorer" "COMMANDS" "[LPinballScorer$Command;" "PinballScorer") U
def zOutC (E : zEn) (ad adK adV : Nat → Nat) : Prop := ∀ (A : Nat → Prop) (U : State) (H : Heap), E A U H → zCm ad adK adV A U H
section ZSTR
variable {p : Program} {l : Launch} {e : Env} {R : Room} {s : State} {m : MethodId} {args : Array Value} {below : List Frame} {meth : Method} {c : Code} {H : Heap} {locs : List Loc} {cells slots : Nat} {Q : State → Prop}
variable {cc : ByteArray} {own : String} {nL : Nat} {D : zG} {cy : Nat → ClassId} {E : zEn} {A : Nat → Prop} {wv : va_W} {pc : Nat} {ls : Array Slot} {rest st0 : List Value}
/-- a call on an object that stands outside -/
theorem z_runVo {y : MethodName} {cb : ByteArray} {nb n idx : Nat} {ret : Option FieldType} {rf rl mc ms : Nat} {As : List Value} {isC : List Nat} {wc : va_W} {b : Nat} {Qc : (Nat → Prop) → Array Value → State → Outcome → State → Prop} (hM : ∀ sz, Met l y (zws y cb nb ret) { frames := rf, cells := mc, slots := ms, locals := rl } (zPre E D cy (.ref b :: As) wc sz) (Qc (va_A wc sz)) mc ms (va_A wc sz)) (hE : zEok E) (C : zC p s m args meth c cc own nL D cy) (hs : zSiteV own idx y cb nb ret n) (hR : rf + 1 ≤ R.frames ∧ 8 + (nb + 11) + rl ≤ R.locals) (hP : va_P D vwCl wv H) (hD : va_D A wv) (hS : va_S A s.heap H locs) (hA : ∀ q, s.heap.size ≤ q → A q) (hE0 : E A s s.heap) (f1 : isC.map (fun i => wv[i]?) = wc.map some) (f7 : va_nd isC = true) (hrv : ∃ cell : Cell, H[b]? = some cell ∧ cell.vm.isStatics = false ∧ s.vm.findClass y.cls = some cell.cls) (hn : As.length = n) (hlen : ls.size = nL) (hcat : (rest.map fun v => v.category).sum ≤ 8) (hst : st0 = As.reverse ++ .ref b :: rest) (hdg : decode cc pc = .ok (.invokevirtual idx, 3)) (hf : cells + mc ≤ R.cells ∧ slots + ms ≤ R.slots) :
    va_Run p l e R s m args below meth c H locs cells slots mc ms (F0 m pc ls st0) rest (Qc (va_A wc H.size) (Value.ref b :: As).toArray) (va_A wc H.size) := by
  obtain ⟨h1, h2⟩ := zcallee1 (av := .ref b :: As) hE C hP hD hS hA hE0 f1 f7
  exact va_runV (As := As) (rest := rest) C.fix (hM H.size) (cwV n C.ts hs.1 rfl rfl rfl hs.2 hR) ⟨h1, hrv, h2⟩ rfl hn hlen hst (lv_room hcat) hdg hf
/-- what a callee without cells leaves: all -/
theorem zFr_nil (wr : va_W) : zFr wr [] [] wr [] (List.range wr.length) (List.range wr.length) := by
  have h := zFr_end wr [] []
  rw [List.append_nil] at h
  exact h
/-- a call without cells that answers an int in a relation -/
theorem z_gon {T : Type} (o0 : T) {Rl : T → Prop} {r0 : T → Int32} {a0 : Array Value} {mc ms : Nat} (hr : va_Run p l e R s m args below meth c H locs cells slots mc ms (F0 m pc ls st0) rest (zQir D Rl (fun _ => []) r0 (va_A [] H.size) a0) (va_A [] H.size)) (hP : va_P D vwCl wv H) (hD : va_D A wv) (hS : va_S A s.heap H locs) (hA : ∀ q, s.heap.size ≤ q → A q)
    (kk : ∀ (o : T) (H1 : Heap) (locs1 : List Loc), Rl o → va_P D vwCl wv H1 → va_D A wv → va_S A s.heap H1 locs1 → W p l e R s m args below meth c H1 locs1 (cells + mc) (slots + ms) Q (F0 m (pc + 3) ls (.int (r0 o) :: rest))) : W p l e R s m args below meth c H locs cells slots Q (F0 m pc ls st0) :=
  z_goir (T := T) o0 (wc' := fun _ => []) (w' := fun _ => wv) (wc := []) hr hP hD hS hA (fun _ => zFr_nil wv) kk
theorem z_gon1 {r0 : Int32} {a0 : Array Value} {mc ms : Nat} (hr : va_Run p l e R s m args below meth c H locs cells slots mc ms (F0 m pc ls st0) rest (zQi D [] (va_A [] H.size) r0 a0) (va_A [] H.size)) (hP : va_P D vwCl wv H) (hD : va_D A wv) (hS : va_S A s.heap H locs) (hA : ∀ q, s.heap.size ≤ q → A q)
    (kk : ∀ (H1 : Heap) (locs1 : List Loc), va_P D vwCl wv H1 → va_D A wv → va_S A s.heap H1 locs1 → W p l e R s m args below meth c H1 locs1 (cells + mc) (slots + ms) Q (F0 m (pc + 3) ls (.int r0 :: rest))) : W p l e R s m args below meth c H locs cells slots Q (F0 m pc ls st0) :=
  z_goi (val := ()) (wc' := fun _ => []) (w' := fun _ => wv) (r0 := fun _ => r0) (wc := []) hr hP hD hS hA (zFr_nil wv) (fun _ H1 locs1 _ => kk H1 locs1)
end ZSTR
set_option maxHeartbeats 4000000 in
set_option maxRecDepth 100000 in
theorem c_J0_coder (l : Launch) {E : zEn} (hE : zEok E) (D : zG) (cy : Nat → ClassId) (hOB : zOutB E) {ad adK adV : Nat → Nat} (hOC : zOutC E ad adK adV) (i : Nat) (hi : i < 8) (sz : Nat) : Met l yJ0_coder_7d493 (zws yJ0_coder_7d493 cJ0_coder_7d493 1 (some .byte)) { frames := 0, cells := 0, slots := 0, locals := 0 } (zPre E D cy [.ref (adK i)] ([]) sz) (zQi D [] (va_A ([]) sz) (0)) 0 0 (va_A ([]) sz) := by
  refine z_of (Qc := fun A => zQi D [] A (0)) (by decide +kernel) (Nat.le_of_ble_eq_true rfl) rfl ?_
  intro pG eN sT mI below meth cO A ls C hRT hnm hA hP hD hS hE0 hl
  have hX := C.x
  have hB := C.b
  obtain ⟨_, _, _, hstr, _⟩ := hOC _ _ _ hE0
  refine va_gets hX hB ((hOB _ _ _ hE0).1) hS C.o (C.ts _ zm1317) (fun _ h => h) dJ0_coder_7d493_0 ?_
  refine lv_if_eq (tgt := 13) hX hB dJ0_coder_7d493_3 (by decide) (fun c => absurd c (by decide)) (fun _ => ?_)
  refine lv_aload_n hX hB dJ0_coder_7d493_6 rfl (lv_at hl 0 rfl) ?_
  refine vk_getf hX hB (hstr.1 i hi).2.1 hS C.o (C.ts _ zm1318) (fun _ h => h) dJ0_coder_7d493_7 ?_
  refine lv_goto (tgt := 14) hX hB dJ0_coder_7d493_10 (by decide) ?_
  exact z_zret C hRT rfl hP hD hS (Nat.le_of_ble_eq_true rfl) (Nat.le_of_ble_eq_true rfl) rfl rfl dJ0_coder_7d493_14
set_option maxHeartbeats 4000000 in
set_option maxRecDepth 100000 in
theorem c_J0_isLatin1 (l : Launch) {E : zEn} (hE : zEok E) (D : zG) (cy : Nat → ClassId) (hOB : zOutB E) {ad adK adV : Nat → Nat} (hOC : zOutC E ad adK adV) (i : Nat) (hi : i < 8) (sz : Nat) : Met l yJ0_isLatin1_aae02 (zws yJ0_isLatin1_aae02 cJ0_isLatin1_aae02 1 (some .boolean)) { frames := 0, cells := 0, slots := 0, locals := 0 } (zPre E D cy [.ref (adK i)] ([]) sz) (zQi D [] (va_A ([]) sz) (1)) 0 0 (va_A ([]) sz) := by
  refine z_of (Qc := fun A => zQi D [] A (1)) (by decide +kernel) (Nat.le_of_ble_eq_true rfl) rfl ?_
  intro pG eN sT mI below meth cO A ls C hRT hnm hA hP hD hS hE0 hl
  have hX := C.x
  have hB := C.b
  obtain ⟨_, _, _, hstr, _⟩ := hOC _ _ _ hE0
  refine va_gets hX hB ((hOB _ _ _ hE0).1) hS C.o (C.ts _ zm1317) (fun _ h => h) dJ0_isLatin1_aae02_0 ?_
  refine lv_if_eq (tgt := 17) hX hB dJ0_isLatin1_aae02_3 (by decide) (fun c => absurd c (by decide)) (fun _ => ?_)
  refine lv_aload_n hX hB dJ0_isLatin1_aae02_6 rfl (lv_at hl 0 rfl) ?_
  refine vk_getf hX hB (hstr.1 i hi).2.1 hS C.o (C.ts _ zm1318) (fun _ h => h) dJ0_isLatin1_aae02_7 ?_
  refine lv_if_ne (tgt := 17) hX hB dJ0_isLatin1_aae02_10 (by decide) (fun c => absurd rfl c) (fun _ => ?_)
  refine lv_iconst (v := 1) hX hB dJ0_isLatin1_aae02_13 (by decide) ?_
  refine lv_goto (tgt := 18) hX hB dJ0_isLatin1_aae02_14 (by decide) ?_
  exact z_zret C hRT (zb01 (Or.inr rfl)) hP hD hS (Nat.le_of_ble_eq_true rfl) (Nat.le_of_ble_eq_true rfl) rfl rfl dJ0_isLatin1_aae02_18
set_option maxHeartbeats 4000000 in
set_option maxRecDepth 100000 in
theorem c_J0_length (l : Launch) {E : zEn} (hE : zEok E) (D : zG) (cy : Nat → ClassId) (hOB : zOutB E) {ad adK adV : Nat → Nat} (hOC : zOutC E ad adK adV) (i : Nat) (hi : i < 8) (sz : Nat) : Met l yJ0_length_8abf5 (zws yJ0_length_8abf5 cJ0_length_8abf5 1 (some .int)) { frames := 1, cells := 0, slots := 0, locals := 40 } (zPre E D cy [.ref (adK i)] ([]) sz) (zQi D [] (va_A ([]) sz) (nI (zln i))) 0 0 (va_A ([]) sz) := by
  refine z_of (Qc := fun A => zQi D [] A (nI (zln i))) (by decide +kernel) (Nat.le_of_ble_eq_true rfl) rfl ?_
  intro pG eN sT mI below meth cO A ls C hRT hnm hA hP hD hS hE0 hl
  have hX := C.x
  have hB := C.b
  obtain ⟨_, _, _, hstr, _⟩ := hOC _ _ _ hE0
  refine lv_aload_n hX hB dJ0_length_8abf5_0 rfl (lv_at hl 0 rfl) ?_
  refine vk_getf hX hB (hstr.1 i hi).2.2.1 hS C.o (C.ts _ zm1312) (fun _ h => h) dJ0_length_8abf5_1 ?_
  refine va_tlen hX hB (hstr.1 i hi).2.2.2 hS (v := nI (zln i)) rfl dJ0_length_8abf5_4 ?_
  refine lv_aload_n hX hB dJ0_length_8abf5_5 rfl (lv_at hl 0 rfl) ?_
  refine z_gon1 (z_runVo (isC := []) (Qc := fun A => zQi D [] A 0) (c_J0_coder l hE D cy hOB hOC i hi) hE C zs_J0_335 ⟨Nat.le_of_ble_eq_true rfl, Nat.le_of_ble_eq_true rfl⟩ hP hD hS hA hE0 rfl (by decide) (vk_recv hstr hi hS) rfl hl.1 (Nat.le_of_ble_eq_true rfl) rfl dJ0_length_8abf5_6 ⟨Nat.le_of_ble_eq_true rfl, Nat.le_of_ble_eq_true rfl⟩) hP hD hS hA (fun H locs hP hD hS => ?_)
  refine lv_ishr hX hB dJ0_length_8abf5_9 ?_
  rw [sb_shr0]
  exact z_iret C hRT hP hD hS (Nat.le_of_ble_eq_true rfl) (Nat.le_of_ble_eq_true rfl) rfl rfl dJ0_length_8abf5_10
set_option maxHeartbeats 4000000 in
set_option maxRecDepth 100000 in
theorem c_J1_charAt (l : Launch) {E : zEn} (hE : zEok E) (D : zG) (cy : Nat → ClassId) (hOB : zOutB E) {ad adK adV : Nat → Nat} (hOC : zOutC E ad adK adV) (i j : Nat) (hi : i < 8) (hj : j < zln i) (sz : Nat) : Met l yJ1_charAt_3b067 (zws yJ1_charAt_3b067 cJ1_charAt_3b067 2 (some .char)) { frames := 2, cells := 0, slots := 0, locals := 80 } (zPre E D cy [.ref (adV i), .int (nI j)] ([]) sz) (zQi D [] (va_A ([]) sz) (zch i j)) 0 0 (va_A ([]) sz) := by
  refine z_of (Qc := fun A => zQi D [] A (zch i j)) (by decide +kernel) (Nat.le_of_ble_eq_true rfl) rfl ?_
  intro pG eN sT mI below meth cO A ls C hRT hnm hA hP hD hS hE0 hl
  have hX := C.x
  have hB := C.b
  obtain ⟨_, _, _, hstr, _⟩ := hOC _ _ _ hE0
  have hk := zk127z (zch_le hi hj)
  have hl7 := zln_le i hi
  refine lv_iload_n hX hB dJ1_charAt_3b067_0 rfl (lv_at hl 1 rfl) ?_
  refine lv_aload_n hX hB dJ1_charAt_3b067_1 rfl (lv_at hl 0 rfl) ?_
  refine va_tlen hX hB (hstr.1 i hi).2.2.2 hS (v := nI (zln i)) rfl dJ1_charAt_3b067_2 ?_
  refine z_callSv (isC := []) (isR := []) (isO := []) () (fun _ => []) (fun _ => []) (c_J0_checkIndex l hE D cy hOB j (zln i) hj (by omega)) hE C zs_J1_9 ⟨Nat.le_of_ble_eq_true rfl, Nat.le_of_ble_eq_true rfl⟩ hP hD hS hA hE0 ⟨rfl, rfl, rfl, by decide, rfl, rfl, rfl⟩ rfl hl.1 (Nat.le_of_ble_eq_true rfl) rfl dJ1_charAt_3b067_3 ⟨Nat.le_of_ble_eq_true rfl, Nat.le_of_ble_eq_true rfl⟩ (fun o H locs eo hP hD hS => ?_)
  refine lv_aload_n hX hB dJ1_charAt_3b067_6 rfl (lv_at hl 0 rfl) ?_
  refine lv_iload_n hX hB dJ1_charAt_3b067_7 rfl (lv_at hl 1 rfl) ?_
  refine va_tb hX hB (hstr.1 i hi).2.2.2 hS (vp_in_nI hj (show zln i < 2 ^ 31 from by omega)) (v := .int (zch i j)) (by rw [nI_clamp (by omega)]; rfl) dJ1_charAt_3b067_8 ?_
  refine lv_sipush (v := 255) hX hB dJ1_charAt_3b067_9 (by decide) ?_
  refine z_iand (v := zch i j) C dJ1_charAt_3b067_12 hk.1 ?_
  refine lv_i2c (v := zch i j) hX hB dJ1_charAt_3b067_13 hk.2 ?_
  exact z_zret C hRT (znar127 (zch_le hi hj)) hP hD hS (Nat.le_of_ble_eq_true rfl) (Nat.le_of_ble_eq_true rfl) rfl rfl dJ1_charAt_3b067_14
set_option maxHeartbeats 4000000 in
set_option maxRecDepth 100000 in
theorem c_J0_charAt (l : Launch) {E : zEn} (hE : zEok E) (D : zG) (cy : Nat → ClassId) (hOB : zOutB E) {ad adK adV : Nat → Nat} (hOC : zOutC E ad adK adV) (i j : Nat) (hi : i < 8) (hj : j < zln i) (sz : Nat) : Met l yJ0_charAt_5068e (zws yJ0_charAt_5068e cJ0_charAt_5068e 2 (some .char)) { frames := 3, cells := 0, slots := 0, locals := 120 } (zPre E D cy [.ref (adK i), .int (nI j)] ([]) sz) (zQi D [] (va_A ([]) sz) (zch i j)) 0 0 (va_A ([]) sz) := by
  refine z_of (Qc := fun A => zQi D [] A (zch i j)) (by decide +kernel) (Nat.le_of_ble_eq_true rfl) rfl ?_
  intro pG eN sT mI below meth cO A ls C hRT hnm hA hP hD hS hE0 hl
  have hX := C.x
  have hB := C.b
  obtain ⟨_, _, _, hstr, _⟩ := hOC _ _ _ hE0
  refine lv_aload_n hX hB dJ0_charAt_5068e_0 rfl (lv_at hl 0 rfl) ?_
  refine z_gon1 (z_runVo (isC := []) (Qc := fun A => zQi D [] A 1) (c_J0_isLatin1 l hE D cy hOB hOC i hi) hE C zs_J0_492 ⟨Nat.le_of_ble_eq_true rfl, Nat.le_of_ble_eq_true rfl⟩ hP hD hS hA hE0 rfl (by decide) (vk_recv hstr hi hS) rfl hl.1 (Nat.le_of_ble_eq_true rfl) rfl dJ0_charAt_5068e_1 ⟨Nat.le_of_ble_eq_true rfl, Nat.le_of_ble_eq_true rfl⟩) hP hD hS hA (fun H locs hP hD hS => ?_)
  refine lv_if_eq (tgt := 16) hX hB dJ0_charAt_5068e_4 (by decide) (fun c => absurd c (by decide)) (fun _ => ?_)
  refine lv_aload_n hX hB dJ0_charAt_5068e_7 rfl (lv_at hl 0 rfl) ?_
  refine vk_getf hX hB (hstr.1 i hi).2.2.1 hS C.o (C.ts _ zm1312) (fun _ h => h) dJ0_charAt_5068e_8 ?_
  refine lv_iload_n hX hB dJ0_charAt_5068e_11 rfl (lv_at hl 1 rfl) ?_
  refine z_gon1 (z_runS (isC := []) (Qc := fun A => zQi D [] A (zch i j)) (c_J1_charAt l hE D cy hOB hOC i j hi hj) hE C zs_J0_495 ⟨Nat.le_of_ble_eq_true rfl, Nat.le_of_ble_eq_true rfl⟩ hP hD hS hA hE0 rfl (by decide) rfl hl.1 (Nat.le_of_ble_eq_true rfl) rfl dJ0_charAt_5068e_12 ⟨Nat.le_of_ble_eq_true rfl, Nat.le_of_ble_eq_true rfl⟩) hP hD hS hA (fun H locs hP hD hS => ?_)
  exact z_zret C hRT (znar127 (zch_le hi hj)) hP hD hS (Nat.le_of_ble_eq_true rfl) (Nat.le_of_ble_eq_true rfl) rfl rfl dJ0_charAt_5068e_15
set_option maxHeartbeats 4000000 in
set_option maxRecDepth 100000 in
theorem c_J1_canEncodeI (l : Launch) {E : zEn} (hE : zEok E) (D : zG) (cy : Nat → ClassId) (ch : Int32) (hc : zle ch 127) (sz : Nat) : Met l yJ1_canEncode_9a6ad (zws yJ1_canEncode_9a6ad cJ1_canEncode_9a6ad 1 (some .boolean)) { frames := 0, cells := 0, slots := 0, locals := 0 } (zPre E D cy [.int ch] ([]) sz) (zQi D [] (va_A ([]) sz) (1)) 0 0 (va_A ([]) sz) := by
  refine z_of (Qc := fun A => zQi D [] A (1)) (by decide +kernel) (Nat.le_of_ble_eq_true rfl) rfl ?_
  intro pG eN sT mI below meth cO A ls C hRT hnm hA hP hD hS hE0 hl
  have hX := C.x
  have hB := C.b
  have hc_ := hc.2
  refine lv_iload_n hX hB dJ1_canEncode_9a6ad_0 rfl (lv_at hl 0 rfl) ?_
  refine lv_if_lt (tgt := 15) hX hB dJ1_canEncode_9a6ad_1 (by decide) (fun c => absurd c (zi_nlt hc.1 (zlit 0) (by omega) (by omega))) (fun _ => ?_)
  refine lv_iload_n hX hB dJ1_canEncode_9a6ad_4 rfl (lv_at hl 0 rfl) ?_
  refine lv_sipush (v := 255) hX hB dJ1_canEncode_9a6ad_5 (by decide) ?_
  refine lv_icmp_gt (tgt := 15) hX hB dJ1_canEncode_9a6ad_8 (by decide) (fun c => absurd c (zi_nlt (zlit 255) hc.1 (by omega) (by decide))) (fun _ => ?_)
  refine lv_iconst (v := 1) hX hB dJ1_canEncode_9a6ad_11 (by decide) ?_
  refine lv_goto (tgt := 16) hX hB dJ1_canEncode_9a6ad_12 (by decide) ?_
  exact z_zret C hRT (zb01 (Or.inr rfl)) hP hD hS (Nat.le_of_ble_eq_true rfl) (Nat.le_of_ble_eq_true rfl) rfl rfl dJ1_canEncode_9a6ad_16
set_option maxHeartbeats 4000000 in
set_option maxRecDepth 100000 in
theorem c_J1_indexOfChar (l : Launch) {E : zEn} (hE : zEok E) (D : zG) (cy : Nat → ClassId) {ad adK adV : Nat → Nat} (hOC : zOutC E ad adK adV) (i : Nat) (hi : i < 8) (ch : Int32) (hc : zle ch 127) (sz : Nat) : Met l yJ1_indexOfChar_4cfef (zws yJ1_indexOfChar_4cfef cJ1_indexOfChar_4cfef 6 (some .int)) { frames := 0, cells := 0, slots := 0, locals := 0 } (zPre E D cy [.ref (adV i), .int ch, .int 0, .int (nI (zln i))] ([]) sz) (zQir D (fun r : Int32 => r = 0 ↔ zch i 0 = ch) (fun _ => []) (fun r => r) (va_A ([]) sz)) 0 0 (va_A ([]) sz) := by
  refine z_of (Qc := fun A => zQir D (fun r : Int32 => r = 0 ↔ zch i 0 = ch) (fun _ => []) (fun r => r) A) (by decide +kernel) (Nat.le_of_ble_eq_true rfl) rfl ?_
  intro pG eN sT mI below meth cO A ls C hRT hnm hA hP hD hS hE0 hl
  have hX := C.x
  have hB := C.b
  obtain ⟨_, _, _, hstr, _⟩ := hOC _ _ _ hE0
  have hl7 := zln_le i hi
  refine lv_iload_n hX hB dJ1_indexOfChar_4cfef_0 rfl (lv_at hl 1 rfl) ?_
  refine lv_i2b (v := ch) hX hB dJ1_indexOfChar_4cfef_1 (zb8z hc) ?_
  refine lv_istore (lv' := [(4, .int ch), (0, .ref (adV i)), (2, .int 0), (3, .int (nI (zln i)))]) hX hB dJ1_indexOfChar_4cfef_2 (lv_sub hl [0, 2, 3] rfl) (by decide) rfl (fun ls hl => ?_)
  refine lv_iload_n hX hB dJ1_indexOfChar_4cfef_4 rfl (lv_at hl 2 rfl) ?_
  refine lv_istore (lv' := [(5, .int (nI 0)), (4, .int ch), (0, .ref (adV i)), (3, .int (nI (zln i)))]) hX hB dJ1_indexOfChar_4cfef_5 (lv_sub hl [0, 1, 3] rfl) (by decide) rfl (fun ls hl => ?_)
  have loop : ∀ (fu j : Nat), zln i - j < fu → j ≤ zln i → (1 ≤ j → ¬ zch i 0 = ch) → ∀ (ls : Array Slot), lv_has ls 6 [(5, .int (nI j)), (4, .int ch), (0, .ref (adV i)), (3, .int (nI (zln i)))] → W pG l eN { frames := 0, cells := 0, slots := 0, locals := 0 } sT mI ([.ref (adV i), .int ch, .int 0, .int (nI (zln i))] : List Value).toArray below meth cO sT.heap [] 0 0 (MQ below (zQir D (fun r : Int32 => r = 0 ↔ zch i 0 = ch) (fun _ => []) (fun r => r) A) ([.ref (adV i), .int ch, .int 0, .int (nI (zln i))] : List Value).toArray sT 0 0 A) (F0 mI 7 ls []) := by
    intro fu
    induction fu with
    | zero => intro j h; omega
    | succ fu ih =>
      intro j hf hj hne ls hl
      refine lv_iload hX hB dJ1_indexOfChar_4cfef_7 (lv_at hl 0 rfl) ?_
      refine lv_iload_n hX hB dJ1_indexOfChar_4cfef_9 rfl (lv_at hl 3 rfl) ?_
      refine lv_icmp_ge (tgt := 31) hX hB dJ1_indexOfChar_4cfef_10 (by decide) (fun c1 => ?_) (fun c1 => ?_)
      · have h1 := (nI_leI (by omega) (by omega)).mp c1
        have h2 := hne (by omega)
        refine lv_iconst (v := -1) hX hB dJ1_indexOfChar_4cfef_31 (by decide) ?_
        exact z_iretr (-1) ⟨fun z => absurd z (by decide), fun z => absurd z h2⟩ C hRT hP hD hS (Nat.le_of_ble_eq_true rfl) (Nat.le_of_ble_eq_true rfl) rfl rfl dJ1_indexOfChar_4cfef_32
      · have h1 : j < zln i := Nat.not_le.mp (fun z => c1 ((nI_leI (by omega) (by omega)).mpr z))
        refine lv_aload_n hX hB dJ1_indexOfChar_4cfef_13 rfl (lv_at hl 2 rfl) ?_
        refine lv_iload hX hB dJ1_indexOfChar_4cfef_14 (lv_at hl 0 rfl) ?_
        refine va_tb hX hB (hstr.1 i hi).2.2.2 hS (vp_in_nI h1 (show zln i < 2 ^ 31 from by omega)) (v := .int (zch i j)) (by rw [nI_clamp (by omega)]; rfl) dJ1_indexOfChar_4cfef_16 ?_
        refine lv_iload hX hB dJ1_indexOfChar_4cfef_17 (lv_at hl 1 rfl) ?_
        refine lv_icmp_ne (tgt := 25) hX hB dJ1_indexOfChar_4cfef_19 (by decide) (fun c2 => ?_) (fun c2 => ?_)
        · refine lv_iinc (v := nI (j + 1)) (lv' := [(5, .int (nI (j + 1))), (4, .int ch), (0, .ref (adV i)), (3, .int (nI (zln i)))]) hX hB dJ1_indexOfChar_4cfef_25 hl (k := 0) rfl (zi_add (zi_i j) (zlit 1)) (by decide) rfl (fun ls hl => ?_)
          refine lv_goto (tgt := 7) hX hB dJ1_indexOfChar_4cfef_28 (by decide) ?_
          refine ih (j + 1) (by omega) (by omega) (fun _ => ?_) ls hl
          by_cases h : j = 0
          · subst h; exact c2
          · exact hne (by omega)
        · have h3 : zch i j = ch := c2
          refine lv_iload hX hB dJ1_indexOfChar_4cfef_22 (lv_at hl 0 rfl) ?_
          refine z_iretr (nI j) ⟨fun z => ?_, fun z => ?_⟩ C hRT hP hD hS (Nat.le_of_ble_eq_true rfl) (Nat.le_of_ble_eq_true rfl) rfl rfl dJ1_indexOfChar_4cfef_24
          · have : j = 0 := (nI_eq (by omega) (by decide)).mp (show nI j = nI 0 from z)
            subst this; exact h3
          · by_cases h : j = 0
            · subst h; rfl
            · exact absurd z (hne (by omega))
  exact loop (zln i + 1) 0 (by omega) (by omega) (fun z => absurd z (by decide)) ls hl
set_option maxHeartbeats 4000000 in
set_option maxRecDepth 100000 in
theorem c_J1_indexOf (l : Launch) {E : zEn} (hE : zEok E) (D : zG) (cy : Nat → ClassId) {ad adK adV : Nat → Nat} (hOC : zOutC E ad adK adV) (i : Nat) (hi : i < 8) (ch : Int32) (hc : zle ch 127) (sz : Nat) : Met l yJ1_indexOf_4cfef (zws yJ1_indexOf_4cfef cJ1_indexOf_4cfef 4 (some .int)) { frames := 1, cells := 0, slots := 0, locals := 60 } (zPre E D cy [.ref (adV i), .int ch, .int 0, .int (nI (zln i))] ([]) sz) (zQir D (fun r : Int32 => r = 0 ↔ zch i 0 = ch) (fun _ => []) (fun r => r) (va_A ([]) sz)) 0 0 (va_A ([]) sz) := by
  refine z_of (Qc := fun A => zQir D (fun r : Int32 => r = 0 ↔ zch i 0 = ch) (fun _ => []) (fun r => r) A) (by decide +kernel) (Nat.le_of_ble_eq_true rfl) rfl ?_
  intro pG eN sT mI below meth cO A ls C hRT hnm hA hP hD hS hE0 hl
  have hX := C.x
  have hB := C.b
  obtain ⟨_, _, _, hstr, _⟩ := hOC _ _ _ hE0
  have hl7 := zln_le i hi
  refine lv_iload_n hX hB dJ1_indexOf_4cfef_0 rfl (lv_at hl 1 rfl) ?_
  refine z_gon1 (z_runS (isC := []) (Qc := fun A => zQi D [] A 1) (c_J1_canEncodeI l hE D cy ch hc) hE C zs_J1_88 ⟨Nat.le_of_ble_eq_true rfl, Nat.le_of_ble_eq_true rfl⟩ hP hD hS hA hE0 rfl (by decide) rfl hl.1 (Nat.le_of_ble_eq_true rfl) rfl dJ1_indexOf_4cfef_1 ⟨Nat.le_of_ble_eq_true rfl, Nat.le_of_ble_eq_true rfl⟩) hP hD hS hA (fun H locs hP hD hS => ?_)
  refine lv_if_ne (tgt := 9) hX hB dJ1_indexOf_4cfef_4 (by decide) (fun _ => ?_) (fun c => absurd c (by decide))
  refine lv_iload_n hX hB dJ1_indexOf_4cfef_9 rfl (lv_at hl 2 rfl) ?_
  refine lv_iconst (v := 0) hX hB dJ1_indexOf_4cfef_10 (by decide) ?_
  refine va_mmax hX hB (C.2.2.1.trans hl.1.symm) C.o (C.ts _ zm1330) (C.ts _ zm311) (C.ts _ zm199) (C.ts _ zm312) (Nat.le_of_ble_eq_true rfl) (Nat.le_of_ble_eq_true rfl) (Nat.le_of_ble_eq_true rfl) (Nat.le_of_ble_eq_true rfl) dJ1_indexOf_4cfef_11 ?_
  rw [if_neg (show ¬ (0 : Int32) < 0 by decide)]
  refine lv_istore_n (lv' := [(2, .int 0), (0, .ref (adV i)), (1, .int ch), (3, .int (nI (zln i)))]) hX hB dJ1_indexOf_4cfef_14 rfl hl (by decide) rfl (fun ls hl => ?_)
  refine lv_iload_n hX hB dJ1_indexOf_4cfef_15 rfl (lv_at hl 3 rfl) ?_
  refine lv_aload_n hX hB dJ1_indexOf_4cfef_16 rfl (lv_at hl 1 rfl) ?_
  refine va_tlen hX hB (hstr.1 i hi).2.2.2 hS (v := nI (zln i)) rfl dJ1_indexOf_4cfef_17 ?_
  refine va_mmin hX hB (C.2.2.1.trans hl.1.symm) C.o (C.ts _ zm1331) (C.ts _ zm198) (C.ts _ zm199) (C.ts _ zm200) (Nat.le_of_ble_eq_true rfl) (Nat.le_of_ble_eq_true rfl) (Nat.le_of_ble_eq_true rfl) (Nat.le_of_ble_eq_true rfl) dJ1_indexOf_4cfef_18 ?_
  rw [if_neg (show ¬ nI (zln i) < nI (zln i) from nI_nlt (by omega) (by omega))]
  refine lv_istore_n (lv' := [(3, .int (nI (zln i))), (2, .int 0), (0, .ref (adV i)), (1, .int ch)]) hX hB dJ1_indexOf_4cfef_21 rfl hl (by decide) rfl (fun ls hl => ?_)
  refine lv_iload_n hX hB dJ1_indexOf_4cfef_22 rfl (lv_at hl 1 rfl) ?_
  refine lv_iload_n hX hB dJ1_indexOf_4cfef_23 rfl (lv_at hl 0 rfl) ?_
  refine lv_icmp_lt (tgt := 29) hX hB dJ1_indexOf_4cfef_24 (by decide) (fun _ => ?_) (fun c => absurd (show nI 0 < nI (zln i) from nI_lt (by omega) (by omega)) c)
  refine lv_aload_n hX hB dJ1_indexOf_4cfef_29 rfl (lv_at hl 2 rfl) ?_
  refine lv_iload_n hX hB dJ1_indexOf_4cfef_30 rfl (lv_at hl 3 rfl) ?_
  refine lv_iload_n hX hB dJ1_indexOf_4cfef_31 rfl (lv_at hl 1 rfl) ?_
  refine lv_iload_n hX hB dJ1_indexOf_4cfef_32 rfl (lv_at hl 0 rfl) ?_
  refine z_gon (T := Int32) 0 (Rl := fun r : Int32 => r = 0 ↔ zch i 0 = ch) (r0 := fun r => r) (z_runS (isC := []) (Qc := fun A => zQir D (fun r : Int32 => r = 0 ↔ zch i 0 = ch) (fun _ => []) (fun r => r) A) (c_J1_indexOfChar l hE D cy hOC i hi ch hc) hE C zs_J1_95 ⟨Nat.le_of_ble_eq_true rfl, Nat.le_of_ble_eq_true rfl⟩ hP hD hS hA hE0 rfl (by decide) rfl hl.1 (Nat.le_of_ble_eq_true rfl) rfl dJ1_indexOf_4cfef_33 ⟨Nat.le_of_ble_eq_true rfl, Nat.le_of_ble_eq_true rfl⟩) hP hD hS hA (fun o H locs ho hP hD hS => ?_)
  exact z_iretr o ho C hRT hP hD hS (Nat.le_of_ble_eq_true rfl) (Nat.le_of_ble_eq_true rfl) rfl rfl dJ1_indexOf_4cfef_36
set_option maxHeartbeats 4000000 in
set_option maxRecDepth 100000 in
theorem c_J0_indexOfII (l : Launch) {E : zEn} (hE : zEok E) (D : zG) (cy : Nat → ClassId) (hOB : zOutB E) {ad adK adV : Nat → Nat} (hOC : zOutC E ad adK adV) (i : Nat) (hi : i < 8) (ch : Int32) (hc : zle ch 127) (sz : Nat) : Met l yJ0_indexOf_7cf53 (zws yJ0_indexOf_7cf53 cJ0_indexOf_7cf53 3 (some .int)) { frames := 2, cells := 0, slots := 0, locals := 110 } (zPre E D cy [.ref (adK i), .int ch, .int 0] ([]) sz) (zQir D (fun r : Int32 => r = 0 ↔ zch i 0 = ch) (fun _ => []) (fun r => r) (va_A ([]) sz)) 0 0 (va_A ([]) sz) := by
  refine z_of (Qc := fun A => zQir D (fun r : Int32 => r = 0 ↔ zch i 0 = ch) (fun _ => []) (fun r => r) A) (by decide +kernel) (Nat.le_of_ble_eq_true rfl) rfl ?_
  intro pG eN sT mI below meth cO A ls C hRT hnm hA hP hD hS hE0 hl
  have hX := C.x
  have hB := C.b
  obtain ⟨_, _, _, hstr, _⟩ := hOC _ _ _ hE0
  refine lv_aload_n hX hB dJ0_indexOf_7cf53_0 rfl (lv_at hl 0 rfl) ?_
  refine z_gon1 (z_runVo (isC := []) (Qc := fun A => zQi D [] A 1) (c_J0_isLatin1 l hE D cy hOB hOC i hi) hE C zs_J0_492 ⟨Nat.le_of_ble_eq_true rfl, Nat.le_of_ble_eq_true rfl⟩ hP hD hS hA hE0 rfl (by decide) (vk_recv hstr hi hS) rfl hl.1 (Nat.le_of_ble_eq_true rfl) rfl dJ0_indexOf_7cf53_1 ⟨Nat.le_of_ble_eq_true rfl, Nat.le_of_ble_eq_true rfl⟩) hP hD hS hA (fun H locs hP hD hS => ?_)
  refine lv_if_eq (tgt := 23) hX hB dJ0_indexOf_7cf53_4 (by decide) (fun c => absurd c (by decide)) (fun _ => ?_)
  refine lv_aload_n hX hB dJ0_indexOf_7cf53_7 rfl (lv_at hl 0 rfl) ?_
  refine vk_getf hX hB (hstr.1 i hi).2.2.1 hS C.o (C.ts _ zm1312) (fun _ h => h) dJ0_indexOf_7cf53_8 ?_
  refine lv_iload_n hX hB dJ0_indexOf_7cf53_11 rfl (lv_at hl 1 rfl) ?_
  refine lv_iload_n hX hB dJ0_indexOf_7cf53_12 rfl (lv_at hl 2 rfl) ?_
  refine lv_aload_n hX hB dJ0_indexOf_7cf53_13 rfl (lv_at hl 0 rfl) ?_
  refine z_gon1 (z_runVo (isC := []) (Qc := fun A => zQi D [] A (nI (zln i))) (c_J0_length l hE D cy hOB hOC i hi) hE C zs_J0_505 ⟨Nat.le_of_ble_eq_true rfl, Nat.le_of_ble_eq_true rfl⟩ hP hD hS hA hE0 rfl (by decide) (vk_recv hstr hi hS) rfl hl.1 (Nat.le_of_ble_eq_true rfl) rfl dJ0_indexOf_7cf53_14 ⟨Nat.le_of_ble_eq_true rfl, Nat.le_of_ble_eq_true rfl⟩) hP hD hS hA (fun H locs hP hD hS => ?_)
  refine z_gon (T := Int32) 0 (Rl := fun r : Int32 => r = 0 ↔ zch i 0 = ch) (r0 := fun r => r) (z_runS (isC := []) (Qc := fun A => zQir D (fun r : Int32 => r = 0 ↔ zch i 0 = ch) (fun _ => []) (fun r => r) A) (c_J1_indexOf l hE D cy hOC i hi ch hc) hE C zs_J0_637 ⟨Nat.le_of_ble_eq_true rfl, Nat.le_of_ble_eq_true rfl⟩ hP hD hS hA hE0 rfl (by decide) rfl hl.1 (Nat.le_of_ble_eq_true rfl) rfl dJ0_indexOf_7cf53_17 ⟨Nat.le_of_ble_eq_true rfl, Nat.le_of_ble_eq_true rfl⟩) hP hD hS hA (fun o H locs ho hP hD hS => ?_)
  refine lv_goto (tgt := 36) hX hB dJ0_indexOf_7cf53_20 (by decide) ?_
  exact z_iretr o ho C hRT hP hD hS (Nat.le_of_ble_eq_true rfl) (Nat.le_of_ble_eq_true rfl) rfl rfl dJ0_indexOf_7cf53_36
set_option maxHeartbeats 4000000 in
set_option maxRecDepth 100000 in
theorem c_J0_indexOf (l : Launch) {E : zEn} (hE : zEok E) (D : zG) (cy : Nat → ClassId) (hOB : zOutB E) {ad adK adV : Nat → Nat} (hOC : zOutC E ad adK adV) (i : Nat) (hi : i < 8) (ch : Int32) (hc : zle ch 127) (sz : Nat) : Met l yJ0_indexOf_0f7a4 (zws yJ0_indexOf_0f7a4 cJ0_indexOf_0f7a4 2 (some .int)) { frames := 3, cells := 0, slots := 0, locals := 150 } (zPre E D cy [.ref (adK i), .int ch] ([]) sz) (zQir D (fun r : Int32 => r = 0 ↔ zch i 0 = ch) (fun _ => []) (fun r => r) (va_A ([]) sz)) 0 0 (va_A ([]) sz) := by
  refine z_of (Qc := fun A => zQir D (fun r : Int32 => r = 0 ↔ zch i 0 = ch) (fun _ => []) (fun r => r) A) (by decide +kernel) (Nat.le_of_ble_eq_true rfl) rfl ?_
  intro pG eN sT mI below meth cO A ls C hRT hnm hA hP hD hS hE0 hl
  have hX := C.x
  have hB := C.b
  obtain ⟨_, _, _, hstr, _⟩ := hOC _ _ _ hE0
  refine lv_aload_n hX hB dJ0_indexOf_0f7a4_0 rfl (lv_at hl 0 rfl) ?_
  refine lv_iload_n hX hB dJ0_indexOf_0f7a4_1 rfl (lv_at hl 1 rfl) ?_
  refine lv_iconst (v := 0) hX hB dJ0_indexOf_0f7a4_2 (by decide) ?_
  refine z_gon (T := Int32) 0 (Rl := fun r : Int32 => r = 0 ↔ zch i 0 = ch) (r0 := fun r => r) (z_runVo (isC := []) (Qc := fun A => zQir D (fun r : Int32 => r = 0 ↔ zch i 0 = ch) (fun _ => []) (fun r => r) A) (c_J0_indexOfII l hE D cy hOB hOC i hi ch hc) hE C zs_J0_633 ⟨Nat.le_of_ble_eq_true rfl, Nat.le_of_ble_eq_true rfl⟩ hP hD hS hA hE0 rfl (by decide) (vk_recv hstr hi hS) rfl hl.1 (Nat.le_of_ble_eq_true rfl) rfl dJ0_indexOf_0f7a4_3 ⟨Nat.le_of_ble_eq_true rfl, Nat.le_of_ble_eq_true rfl⟩) hP hD hS hA (fun o H locs ho hP hD hS => ?_)
  exact z_iretr o ho C hRT hP hD hS (Nat.le_of_ble_eq_true rfl) (Nat.le_of_ble_eq_true rfl) rfl rfl dJ0_indexOf_0f7a4_6
