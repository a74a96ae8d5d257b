/-! what the JDK's code reads of statics; contracts whose answer lies in a relation; calls of inherited methods -/
def zStF (A : Nat → Prop) (U : State) (H : Heap) : Prop :=
  va_Z "java/lang/String" "COMPACT_STRINGS" "Z" (.int 1) A U H ∧
  (∃ t : Nat, va_Z "java/lang/Integer" "DigitOnes" "[B" (.ref t) A U H ∧ va_T .byte t 100 (fun j => .int (nI (48 + j % 10))) A U H) ∧
  (∃ t : Nat, va_Z "java/lang/Integer" "DigitTens" "[B" (.ref t) A U H ∧ va_T .byte t 100 (fun j => .int (nI (48 + j / 10))) A U H) ∧
  va_Zq "jdk/internal/util/Preconditions" "SIOOBE_FORMATTER" "Ljava/util/function/BiFunction;" A U H ∧
  va_Nw (.selects RJ4 yJ5_ensureCapacityInternal_d00df yJ5_ensureCapacityInternal_d00df) U ∧ va_Nw (.selects RJ4 yJ5_newCapacity_0f7a4 yJ5_newCapacity_0f7a4) U
def zOutB (E : zEn) : Prop := ∀ (A : Nat → Prop) (U : State) (H : Heap), E A U H → zStF A U H
def zQvr (D : zG) {T : Type} (Rl : T → Prop) (W' : T → va_W) (A : Nat → Prop) : Array Value → State → Outcome → State → Prop :=
  va_Qv Rl (fun o t => va_P D vwCl (W' o) t.heap ∧ va_D A (W' o)) A
def zQir (D : zG) {T : Type} (Rl : T → Prop) (W' : T → va_W) (r0 : T → Int32) (A : Nat → Prop) : Array Value → State → Outcome → State → Prop :=
  va_Qi (fun (r : Int32) (o : T) => Rl o ∧ r = r0 o) (fun o t => va_P D vwCl (W' o) t.heap ∧ va_D A (W' o)) A
def zQqr (D : zG) {T : Type} (Rl : T → Prop) (W' : T → va_W) (r0 : T → Option Nat) (A : Nat → Prop) : Array Value → State → Outcome → State → Prop :=
  va_Qq (fun (r : Option Nat) (o : T) => Rl o ∧ r = r0 o) (fun o t => va_P D vwCl (W' o) t.heap ∧ va_D A (W' o)) A
def zSiteU (own : String) (idx : Nat) (y : MethodName) (cb : ByteArray) (nb : Nat) (ret : Option FieldType) (n : Nat) : Prop := GoodIn zw (zws y cb nb ret) ∧ Cond.initialized y.cls ∈ zw ∧ (y.cls ≠ "java/lang/invoke/MethodHandle" ∧ y.cls ≠ "java/lang/invoke/VarHandle" ∧ (parseMethodDescriptor y.desc).map (fun d => d.parameters.length) = some n) ∧ Cond.methodLink own idx y ∈ zw ∧ Cond.sameMethod y.cls y.cls y.name y.desc ∈ zw ∧ Cond.instanceMethod y ∈ zw
theorem z_selP {K : String} {n : Nat} {y : MethodName} {args : Array Value} {s : State} (hy : y.cls ≠ "java/lang/invoke/MethodHandle" ∧ y.cls ≠ "java/lang/invoke/VarHandle") (hins : (Cond.instantiable K n).before args s = true) (hpriv : (Cond.privateMethod y).before args s = true) (hinst : (Cond.instanceMethod y).before args s = true) (hsame : (Cond.sameMethod y.cls y.cls y.name y.desc).before args s = true) : (Cond.selects K y y).before args s = true := by
  obtain ⟨c, k, hc, hk, -, hniab, -, -⟩ := Cond.instantiable_spec hins
  obtain ⟨mk, methM, hnamed, hmethM, -, -⟩ := Cond.instanceMethod_spec hinst
  obtain ⟨cn, ck, r1, hcn, hck, hni, hf, hn1⟩ := Cond.sameMethod_found hsame
  have hfound : s.methodFound? y.cls y.name y.desc = some mk := State.methodFound?_of_named hnamed hy
  have hcls : mk.cls = cn := Option.some.inj ((findClass_of_methodNamed hnamed).symm.trans hcn)
  have hsel : selectMethod {} s.vm c mk = .method mk := selectMethod_private hmethM (Cond.privateMethod_at hpriv mk methM hnamed hmethM)
  simp only [Cond.before, Cond.holds, Cond.value, hc, hfound, hnamed, hsel, hcls, hck]
  simp; exact hni
section ZREL
variable {p : Program} {l : Launch} {e : Env} {R : Room} {s : State} {m : MethodId} {args : Array Value} {below : List Frame} {meth : Method} {c : Code} {H : Heap} {locs : List Loc} {cells slots : Nat} {Q : State → Prop}
variable {cc : ByteArray} {own : String} {nL : Nat} {D : zG} {cy : Nat → ClassId} {E : zEn} {A : Nat → Prop} {wv : va_W} {pc : Nat} {ls : Array Slot} {rest st0 : List Value}
theorem zcallee1 {wc : va_W} {isC : List Nat} {av : List Value} (hE : zEok E) (C : zC p s m args meth c cc own nL D cy) (hP : va_P D vwCl wv H) (hD : va_D A wv) (hS : va_S A s.heap H locs) (hA : ∀ q, s.heap.size ≤ q → A q) (hE0 : E A s s.heap) (f1 : isC.map (fun i => wv[i]?) = wc.map some) (f7 : va_nd isC = true) : FrameBlind (zPre E D cy av wc H.size) ∧ ∀ U : State, U.heap = H → s.WarmedH U.vm → zPre E D cy av wc H.size av.toArray U := by
  refine ⟨zPre_blind hE, fun U hU hW => ⟨rfl, by rw [hU], by rw [hU]; exact zsub hP isC f1, va_K.moved hW.alike C.K, ?_, ?_⟩⟩
  · exact (hD.sub isC f7 f1).weaken (fun _ _ _ _ => trivial)
  · have e1 : E A s H := hE.1 A s s.heap H hE0 (fun a h1 h2 => hS.2.1 a h1 h2)
    rw [hU]
    exact hE.2.2.1 _ s U H hW (hE.2.1 A _ s H e1 (va_free hD hS hA isC f1))
theorem z_govr {T : Type} (o0 : T) {Rl : T → Prop} {wc' w' : T → va_W} {wc : va_W} {isC isR isO : List Nat} {a0 : Array Value} {mc ms : Nat} (hr : va_Run p l e R s m args below meth c H locs cells slots mc ms (F0 m pc ls st0) rest (zQvr D Rl wc' (va_A wc H.size) a0) (va_A wc H.size)) (hP : va_P D vwCl wv H) (hD : va_D A wv) (hS : va_S A s.heap H locs) (hA : ∀ q, s.heap.size ≤ q → A q) (hF : ∀ o, zFr wv wc (wc' o) (w' o) isC isR isO)
    (kk : ∀ (o : T) (H1 : Heap) (locs1 : List Loc), Rl o → va_P D vwCl (w' o) H1 → va_D A (w' o) → va_S A s.heap H1 locs1 → W p l e R s m args below meth c H1 locs1 (cells + mc) (slots + ms) Q (F0 m (pc + 3) ls rest)) : W p l e R s m args below meth c H locs cells slots Q (F0 m pc ls st0) := by
  obtain ⟨g1, _, _, _, _, _, _⟩ := hF o0
  have hFc := va_free hD hS hA isC g1
  refine va_callv hr hS (fun q _ h => hFc q h) hFc (fun a t H1 locs1 ht hvm hw hB hz1 hk1 hS1 => ?_)
  obtain ⟨f1, f2, f3, f4, f5, f6, f7⟩ := hF a
  obtain ⟨hP1, hD1⟩ := hB
  rw [ht] at hP1
  obtain ⟨hP2, hD2⟩ := va_join hP hD isC isR f1 (zrest isR f2) f3 f4 hk1 hFc hP1 hD1
  exact kk a H1 locs1 hw (zsub hP2 isO f5) (hD2.sub isO f6 f5) hS1
theorem z_goir {T : Type} (o0 : T) {Rl : T → Prop} {wc' w' : T → va_W} {r0 : T → Int32} {wc : va_W} {isC isR isO : List Nat} {a0 : Array Value} {mc ms : Nat} (hr : va_Run p l e R s m args below meth c H locs cells slots mc ms (F0 m pc ls st0) rest (zQir D Rl wc' r0 (va_A wc H.size) a0) (va_A wc H.size)) (hP : va_P D vwCl wv H) (hD : va_D A wv) (hS : va_S A s.heap H locs) (hA : ∀ q, s.heap.size ≤ q → A q) (hF : ∀ o, zFr wv wc (wc' o) (w' o) isC isR isO)
    (kk : ∀ (o : T) (H1 : Heap) (locs1 : List Loc), Rl o → va_P D vwCl (w' o) H1 → va_D A (w' o) → va_S A s.heap H1 locs1 → W p l e R s m args below meth c H1 locs1 (cells + mc) (slots + ms) Q (F0 m (pc + 3) ls (.int (r0 o) :: rest))) : W p l e R s m args below meth c H locs cells slots Q (F0 m pc ls st0) := by
  obtain ⟨g1, _, _, _, _, _, _⟩ := hF o0
  have hFc := va_free hD hS hA isC g1
  refine va_calli hr hS (fun q _ h => hFc q h) hFc (fun r a t H1 locs1 ht hvm hw hB hz1 hk1 hS1 => ?_)
  obtain ⟨f1, f2, f3, f4, f5, f6, f7⟩ := hF a
  obtain ⟨hP1, hD1⟩ := hB
  rw [ht] at hP1
  obtain ⟨hP2, hD2⟩ := va_join hP hD isC isR f1 (zrest isR f2) f3 f4 hk1 hFc hP1 hD1
  rw [show r = r0 a from hw.2]
  exact kk a H1 locs1 hw.1 (zsub hP2 isO f5) (hD2.sub isO f6 f5) hS1
theorem z_goqr {T : Type} (o0 : T) {Rl : T → Prop} {wc' w' : T → va_W} {r0 : T → Option Nat} {wc : va_W} {isC isR isO : List Nat} {a0 : Array Value} {mc ms : Nat} (hr : va_Run p l e R s m args below meth c H locs cells slots mc ms (F0 m pc ls st0) rest (zQqr D Rl wc' r0 (va_A wc H.size) a0) (va_A wc H.size)) (hP : va_P D vwCl wv H) (hD : va_D A wv) (hS : va_S A s.heap H locs) (hA : ∀ q, s.heap.size ≤ q → A q) (hF : ∀ o, zFr wv wc (wc' o) (w' o) isC isR isO)
    (kk : ∀ (o : T) (H1 : Heap) (locs1 : List Loc), Rl o → va_P D vwCl (w' o) H1 → va_D A (w' o) → va_S A s.heap H1 locs1 → W p l e R s m args below meth c H1 locs1 (cells + mc) (slots + ms) Q (F0 m (pc + 3) ls (va_rf (r0 o) :: rest))) : W p l e R s m args below meth c H locs cells slots Q (F0 m pc ls st0) := by
  obtain ⟨g1, _, _, _, _, _, _⟩ := hF o0
  have hFc := va_free hD hS hA isC g1
  refine va_callq hr hS (fun q _ h => hFc q h) hFc (fun r a t H1 locs1 ht hvm hw hB hz1 hk1 hS1 => ?_)
  obtain ⟨f1, f2, f3, f4, f5, f6, f7⟩ := hF a
  obtain ⟨hP1, hD1⟩ := hB
  rw [ht] at hP1
  obtain ⟨hP2, hD2⟩ := va_join hP hD isC isR f1 (zrest isR f2) f3 f4 hk1 hFc hP1 hD1
  rw [show r = r0 a from hw.2]
  exact kk a H1 locs1 hw.1 (zsub hP2 isO f5) (hD2.sub isO f6 f5) hS1
theorem z_cwU {K : String} {y : MethodName} {cb : ByteArray} {nb n idx rf rl mc ms : Nat} {ret : Option FieldType} (C : zC p s m args meth c cc own nL D cy) (hs : zSiteU own idx y cb nb ret n) (hsel : (Cond.selects K y y).before args s = true) (hR : rf + 1 ≤ R.frames ∧ 8 + (nb + 11) + rl ≤ R.locals) : va_CU R s args own K y.cls idx y y cb nb ret (zws y cb nb ret) { frames := rf, cells := mc, slots := ms, locals := rl } mc ms n := by
  obtain ⟨h1, h2, ⟨h3, h4, h5⟩, h6, h7, h8⟩ := hs
  have hc : Cond.code y cb nb ret ∈ zws y cb nb ret := List.mem_cons_self
  refine ⟨⟨rfl, rfl, hR.1, hR.2, pay_in C.ts h1, hc⟩, C.ts _ (h1 _ hc).1, C.ts _ h2, ⟨h3, h4⟩, fun sig h => ?_, C.ts _ h6, C.ts _ h7, va_Decl.of (C.ts _ h8) (C.ts _ (h1 _ hc).1), hsel, C.ts _ h8⟩
  rw [h] at h5
  exact (Option.some.inj h5).symm
theorem z_runU {y : MethodName} {cb : ByteArray} {nb n idx : Nat} {ret : Option FieldType} {rf rl mc ms : Nat} {As : List Value} {isC : List Nat} {wc : va_W} {b : Nat} {K : String} {Qc : (Nat → Prop) → Array Value → State → Outcome → State → Prop} (hM : ∀ sz, Met l y (zws y cb nb ret) { frames := rf, cells := mc, slots := ms, locals := rl } (zPre E D cy (.ref b :: As) wc sz) (Qc (va_A wc sz)) mc ms (va_A wc sz)) (hE : zEok E) (C : zC p s m args meth c cc own nL D cy) (hs : zSiteU own idx y cb nb ret n) (hsel : (Cond.selects K y y).before args s = true) (hR : rf + 1 ≤ R.frames ∧ 8 + (nb + 11) + rl ≤ R.locals) (hP : va_P D vwCl wv H) (hD : va_D A wv) (hS : va_S A s.heap H locs) (hA : ∀ q, s.heap.size ≤ q → A q) (hE0 : E A s s.heap) (f1 : isC.map (fun i => wv[i]?) = wc.map some) (f7 : va_nd isC = true) (q0 : Nat) {ci : Nat} {fs : List Value} {q : vw_C} (he : wv[q0]? = some (b, .inr (ci, fs))) (hc : vwCl[ci]? = some q) (hq : q.1 = K) (hn : As.length = n) (hlen : ls.size = nL) (hcat : (rest.map fun v => v.category).sum ≤ 8) (hst : st0 = As.reverse ++ .ref b :: rest) (hdg : decode cc pc = .ok (.invokevirtual idx, 3)) (hf : cells + mc ≤ R.cells ∧ slots + ms ≤ R.slots) :
    va_Run p l e R s m args below meth c H locs cells slots mc ms (F0 m pc ls st0) rest (Qc (va_A wc H.size) (Value.ref b :: As).toArray) (va_A wc H.size) := by
  obtain ⟨h1, h2⟩ := zcallee1 (av := .ref b :: As) hE C hP hD hS hA hE0 f1 f7
  have hrv := va_recv C.K hP hc he
  rw [hq] at hrv
  exact va_runU (As := As) (rest := rest) C.fix (hM H.size) (z_cwU C hs hsel hR) ⟨h1, hrv, h2⟩ rfl hn hlen hst (lv_room hcat) hdg hf
theorem z_runV {y : MethodName} {cb : ByteArray} {nb n idx : Nat} {ret : Option FieldType} {rf rl mc ms : Nat} {As : List Value} {isC : List Nat} {wc : va_W} {b : Nat} {Qc : (Nat → Prop) → Array Value → State → Outcome → State → Prop} (hM : ∀ sz, Met l y (zws y cb nb ret) { frames := rf, cells := mc, slots := ms, locals := rl } (zPre E D cy (.ref b :: As) wc sz) (Qc (va_A wc sz)) mc ms (va_A wc sz)) (hE : zEok E) (C : zC p s m args meth c cc own nL D cy) (hs : zSiteV own idx y cb nb ret n) (hR : rf + 1 ≤ R.frames ∧ 8 + (nb + 11) + rl ≤ R.locals) (hP : va_P D vwCl wv H) (hD : va_D A wv) (hS : va_S A s.heap H locs) (hA : ∀ q, s.heap.size ≤ q → A q) (hE0 : E A s s.heap) (f1 : isC.map (fun i => wv[i]?) = wc.map some) (f7 : va_nd isC = true) (q0 : Nat) {ci : Nat} {fs : List Value} {q : vw_C} (he : wv[q0]? = some (b, .inr (ci, fs))) (hc : vwCl[ci]? = some q) (hq : q.1 = y.cls) (hn : As.length = n) (hlen : ls.size = nL) (hcat : (rest.map fun v => v.category).sum ≤ 8) (hst : st0 = As.reverse ++ .ref b :: rest) (hdg : decode cc pc = .ok (.invokevirtual idx, 3)) (hf : cells + mc ≤ R.cells ∧ slots + ms ≤ R.slots) :
    va_Run p l e R s m args below meth c H locs cells slots mc ms (F0 m pc ls st0) rest (Qc (va_A wc H.size) (Value.ref b :: As).toArray) (va_A wc H.size) := by
  obtain ⟨h1, h2⟩ := zcallee1 (av := .ref b :: As) hE C hP hD hS hA hE0 f1 f7
  have hrv := va_recv C.K hP hc he
  rw [hq] at hrv
  exact va_runV (As := As) (rest := rest) C.fix (hM H.size) (cwV n C.ts hs.1 rfl rfl rfl hs.2 hR) ⟨h1, hrv, h2⟩ rfl hn hlen hst (lv_room hcat) hdg hf
theorem z_runS {y : MethodName} {cb : ByteArray} {nb n idx : Nat} {ret : Option FieldType} {rf rl mc ms : Nat} {As : List Value} {isC : List Nat} {wc : va_W} {Qc : (Nat → Prop) → Array Value → State → Outcome → State → Prop} (hM : ∀ sz, Met l y (zws y cb nb ret) { frames := rf, cells := mc, slots := ms, locals := rl } (zPre E D cy As wc sz) (Qc (va_A wc sz)) mc ms (va_A wc sz)) (hE : zEok E) (C : zC p s m args meth c cc own nL D cy) (hs : zSiteS own idx y cb nb ret n) (hR : rf + 1 ≤ R.frames ∧ 8 + (nb + 11) + rl ≤ R.locals) (hP : va_P D vwCl wv H) (hD : va_D A wv) (hS : va_S A s.heap H locs) (hA : ∀ q, s.heap.size ≤ q → A q) (hE0 : E A s s.heap) (f1 : isC.map (fun i => wv[i]?) = wc.map some) (f7 : va_nd isC = true) (hn : As.length = n) (hlen : ls.size = nL) (hcat : (rest.map fun v => v.category).sum ≤ 8) (hst : st0 = As.reverse ++ rest) (hdg : decode cc pc = .ok (.invokestatic idx, 3)) (hf : cells + mc ≤ R.cells ∧ slots + ms ≤ R.slots) :
    va_Run p l e R s m args below meth c H locs cells slots mc ms (F0 m pc ls st0) rest (Qc (va_A wc H.size) As.toArray) (va_A wc H.size) := by
  obtain ⟨h1, h2⟩ := zcallee1 (av := As) hE C hP hD hS hA hE0 f1 f7
  exact va_runS (As := As) (rest := rest) C.fix (hM H.size) (va_cwS n C.ts hs.1 rfl rfl rfl hs.2 hR) ⟨h1, h2⟩ rfl hn hlen hst (lv_room hcat) hdg hf
theorem z_runSU {y : MethodName} {cb : ByteArray} {nb n idx : Nat} {ret : Option FieldType} {rf rl mc ms : Nat} {As : List Value} {isC : List Nat} {wc : va_W} {b : Nat} {Qc : (Nat → Prop) → Array Value → State → Outcome → State → Prop} (hM : ∀ sz, Met l y (zws y cb nb ret) { frames := rf, cells := mc, slots := ms, locals := rl } (zPre E D cy (.ref b :: As) wc sz) (Qc (va_A wc sz)) mc ms (va_A wc sz)) (hE : zEok E) (C : zC p s m args meth c cc own nL D cy) (hs : zSiteU own idx y cb nb ret n) (hsup : Cond.superclass own y.cls ∈ zw) (hno : y.name ≠ "<init>") (hR : rf + 1 ≤ R.frames ∧ 8 + (nb + 11) + rl ≤ R.locals) (hP : va_P D vwCl wv H) (hD : va_D A wv) (hS : va_S A s.heap H locs) (hA : ∀ q, s.heap.size ≤ q → A q) (hE0 : E A s s.heap) (f1 : isC.map (fun i => wv[i]?) = wc.map some) (f7 : va_nd isC = true) (q0 : Nat) {ci : Nat} {fs : List Value} {q : vw_C} (he : wv[q0]? = some (b, .inr (ci, fs))) (hc : vwCl[ci]? = some q) (hn : As.length = n) (hlen : ls.size = nL) (hcat : (rest.map fun v => v.category).sum ≤ 8) (hst : st0 = As.reverse ++ .ref b :: rest) (hdg : decode cc pc = .ok (.invokespecial idx, 3)) (hf : cells + mc ≤ R.cells ∧ slots + ms ≤ R.slots) :
    va_Run p l e R s m args below meth c H locs cells slots mc ms (F0 m pc ls st0) rest (Qc (va_A wc H.size) (Value.ref b :: As).toArray) (va_A wc H.size) := by
  obtain ⟨h1, h2⟩ := zcallee1 (av := .ref b :: As) hE C hP hD hS hA hE0 f1 f7
  have hrv := va_recv C.K hP hc he
  obtain ⟨g1, g2, ⟨g3, g4, g5⟩, g6, g7, g8⟩ := hs
  have hcd : Cond.code y cb nb ret ∈ zws y cb nb ret := List.mem_cons_self
  refine va_runSU (As := As) (rest := rest) (C.K.1 ci q hc).2 C.fix (hM H.size) ⟨⟨rfl, rfl, hR.1, hR.2, pay_in C.ts g1, hcd⟩, C.ts _ g6, C.ts _ g7, C.ts _ hsup, C.ts _ g8, C.ts _ g2, C.ts _ (g1 _ hcd).1, hno, fun sig h => ?_⟩ ⟨h1, hrv, h2⟩ rfl hn hlen hst (lv_room hcat) hdg hf
  rw [h] at g5
  exact (Option.some.inj g5).symm
theorem z_vretr {T : Type} (o : T) {Rl : T → Prop} {w' : T → va_W} {mc ms : Nat} (hR : Rl o) (C : zC p s m args meth c cc own nL D cy) (hr : meth.sig.returnType = none) (hP : va_P D vwCl wv H) (hD : va_D A wv) (hS : va_S A s.heap H locs) (hc : cells ≤ mc) (hs : slots ≤ ms) (hw : wv = w' o) (hdg : decode cc pc = .ok (.return_, 1)) : W p l e R s m args below meth c H locs cells slots (MQ below (zQvr D Rl w' A) args s mc ms A) (F0 m pc ls []) := by
  subst hw
  refine W.widen hc hs ?_
  exact W.vret C.x C.b hr (fun t ht hW => ⟨⟨o, rfl, hR, by rw [ht]; exact hP, hD⟩, hS.F ht⟩) hS.2.2 hdg C.lk
theorem z_iretr {T : Type} (o : T) {Rl : T → Prop} {w' : T → va_W} {r0 : T → Int32} {v : Int32} {mc ms : Nat} (hR : Rl o) (C : zC p s m args meth c cc own nL D cy) (hr : meth.sig.returnType = some .int) (hP : va_P D vwCl wv H) (hD : va_D A wv) (hS : va_S A s.heap H locs) (hc : cells ≤ mc) (hs : slots ≤ ms) (hv : v = r0 o) (hw : wv = w' o) (hdg : decode cc pc = .ok (.ireturn, 1)) : W p l e R s m args below meth c H locs cells slots (MQ below (zQir D Rl w' r0 A) args s mc ms A) (F0 m pc ls [.int v]) := by
  subst hw hv
  refine W.widen hc hs ?_
  exact W.iret C.x C.b hr (fun t ht hW => ⟨⟨r0 o, o, rfl, ⟨hR, rfl⟩, by rw [ht]; exact hP, hD⟩, hS.F ht⟩) hS.2.2 hdg C.lk
theorem z_aretr {T : Type} (o : T) {Rl : T → Prop} {w' : T → va_W} {r0 : T → Option Nat} {v : Nat} {rt : FieldType} {mc ms : Nat} (hR : Rl o) (C : zC p s m args meth c cc own nL D cy) (hr : meth.sig.returnType = some rt) (hrt : (∃ n, rt = .object n) ∨ ∃ t, rt = .array t) (hP : va_P D vwCl wv H) (hD : va_D A wv) (hS : va_S A s.heap H locs) (hc : cells ≤ mc) (hs : slots ≤ ms) (hv : some v = r0 o) (hw : wv = w' o) (hdg : decode cc pc = .ok (.areturn, 1)) : W p l e R s m args below meth c H locs cells slots (MQ below (zQqr D Rl w' r0 A) args s mc ms A) (F0 m pc ls [.ref v]) := by
  subst hw
  refine W.widen hc hs ?_
  refine W.aret (v := va_rf (some v)) C.x C.b hr hrt ?_ (fun t ht hW => ⟨⟨some v, o, rfl, ⟨hR, hv⟩, by rw [ht]; exact hP, hD⟩, hS.F ht⟩) hS.2.2 hdg C.lk
  exact Or.inr ⟨v, rfl⟩
theorem zcy_byte' {cA : ClassId} (C : zC p s m args meth c cc own nL D cy) (h : va_K D vwCl (zT cy ++ [(cA, .byte)]) s) : cA = cy 2 := zcy_byte C h
theorem z_newB (C : zC p s m args meth c cc own nL D cy) (hP : va_P D vwCl wv H) (hD : va_D A wv) (hS : va_S A s.heap H locs) (hA : ∀ q, s.heap.size ≤ q → A q) {n : Int32} (N' : Nat) (hn : ¬ n < 0) (hN : n.toNatClampNeg = N') (hb : N' * 1 ≤ 536870912) (hf : cells + 1 ≤ R.cells ∧ slots + N' ≤ R.slots) (hdg : decode cc pc = .ok (.newarray .byte, 2))
    (kk : ∀ (q : Nat) (H1 : Heap), va_P D vwCl (wv ++ [(q, .inl (cy 2, N', .inl (fun _ => 0)))]) H1 → va_D A (wv ++ [(q, .inl (cy 2, N', .inl (fun _ => 0)))]) → va_S A s.heap H1 locs → W p l e R s m args below meth c H1 locs (cells + 1) (slots + N') Q (F0 m (pc + 2) ls (.ref q :: rest))) : W p l e R s m args below meth c H locs cells slots Q (F0 m pc ls (.int n :: rest)) := by
  refine va_newa C.x C.b (atype := .byte) (C.ts (.arrayClass .byte) zm84) (ty := .byte) rfl C.K hP hD hS hA (a0 := (N', .inl (fun _ => 0))) (fun _ => rfl) hn hN hb hf.1 hf.2 hdg (fun q cA H1 hK hP1 hD1 hS1 => ?_)
  obtain rfl := zcy_byte C hK
  exact kk q H1 hP1 hD1 hS1
theorem z_copyB {index : Nat} (C : zC p s m args meth c cc own nL D cy) (hml : ls.size = nL) (hlink : Cond.methodLink own index arraycopyName ∈ zw) (hP : va_P D vwCl wv H) (hD : va_D A wv) (hS : va_S A s.heap H locs) (q0 q1 : Nat) {a0 a n0 n1 : Nat} {f g : Nat → Int32} (ha0 : wv[q0]? = some (a0, .inl (cy 2, n0, .inl f))) (ha1 : wv[q1]? = some (a, .inl (cy 2, n1, .inl g))) {n : Int32} (N : Nat) (hn0 : ¬ n < 0) (hN : n.toNatClampNeg = N) (h4 : N ≤ n0) (h5 : N ≤ n1) (hf : sb_Fit f) (hR : 1 ≤ R.frames ∧ (rest.map fun v => v.category).sum + (nativeFrameWords "java/lang/System" "arraycopy" 5 + 11) ≤ R.locals) {w' : va_W} (hw : wv.set q1 (a, .inl (cy 2, n1, .inl (va_cpy f g 0 0 N))) = w') (hdg : decode cc pc = .ok (.invokestatic index, 3))
    (kk : ∀ (H1 : Heap) (locs1 : List Loc), va_P D vwCl w' H1 → va_D A w' → va_S A s.heap H1 locs1 → W p l e R s m args below meth c H1 locs1 cells slots Q (F0 m (pc + 3) ls rest)) : W p l e R s m args below meth c H locs cells slots Q (F0 m pc ls (.int n :: .int 0 :: .ref a :: .int 0 :: .ref a0 :: rest)) := by
  subst hw
  subst hN
  exact va_copyi C.x C.b (C.2.2.1.trans hml.symm) C.o (C.ts _ hlink) (C.ts (.native arraycopyName) zm158) (C.ts (.static arraycopyName) zm159) (C.ts (.initialized "java/lang/System") zm160) C.K hP hD hS q0 q1 2 2 ha0 ha1 rfl rfl rfl (by decide) (by decide) hn0 (by simpa using h4) (by simpa using h5) (fun _ _ => hf _) hR.1 hR.2 hdg kk
end ZREL
