section ZR
variable {p : Program} {l : Launch} {e : Env} {R : Room} {s : State} {m : MethodId} {args : Array Value} {below : List Frame} {meth : Method} {c : Code} {H : Heap} {locs : List Loc} {cells slots : Nat} {Q : State → Prop}
variable {cc : ByteArray} {own : String} {nL : Nat} {D : zG} {cy : Nat → ClassId} {E : zEn} {A : Nat → Prop} {wv : va_W} {pc : Nat} {ls : Array Slot} {rest st0 : List Value}
theorem z_get (C : zC p s m args meth c cc own nL D cy) (hP : va_P D vwCl wv H) (q0 : Nat) {a ci : Nat} {fs : List Value} (he : wv[q0]? = some (a, .inr (ci, fs))) {Cn : String} {T : u_T} {N : Nat} (hc : vwCl[ci]? = some (Cn, T, N)) (hin : ∀ w ∈ u_ws Cn T N, w ∈ zw) (k : Nat) (hk : k < N) {idx : Nat} (hl : Cond.fieldLink own idx (T k).1 (T k).2.1 (T k).2.2.1 ∈ zw) {v : Value} (hv : fs[k]? = some v) (hdg : decode cc pc = .ok (.getfield idx, 3))
    (kk : W p l e R s m args below meth c H locs cells slots Q (F0 m (pc + 3) ls (v :: rest))) : W p l e R s m args below meth c H locs cells slots Q (F0 m pc ls (.ref a :: rest)) :=
  va_get C.x C.b C.ts hin C.o C.K hP q0 he hc k hk (C.ts _ hl) (fun _ h => h) hv hdg kk
theorem z_put (C : zC p s m args meth c cc own nL D cy) (hP : va_P D vwCl wv H) (hD : va_D A wv) (hS : va_S A s.heap H locs) (q0 : Nat) {a ci : Nat} {fs : List Value} (he : wv[q0]? = some (a, .inr (ci, fs))) {Cn : String} {T : u_T} {N : Nat} (hc : vwCl[ci]? = some (Cn, T, N)) (hin : ∀ w ∈ u_ws Cn T N, w ∈ zw) (ty0 : Nat → FieldType) (hty : ∀ k, k < N → parseFieldDescriptor (T k).2.2.1 = some (ty0 k)) (hnm : ∀ a, a < N → ∀ b, b < N → a ≠ b → (T a).2.1 ≠ (T b).2.1) (k : Nat) (hk : k < N) {idx : Nat} (hl : Cond.fieldLink own idx (T k).1 (T k).2.1 (T k).2.2.1 ∈ zw) (hfin : (T k).2.2.2 = false) {ty : FieldType} (hd : parseFieldDescriptor (T k).2.2.1 = some ty) {v : Value} (hn : narrow ty v = v) (hfit : fits ty v = true) (hlen : k < fs.length) {w' : va_W} (hw : wv.set q0 (a, .inr (ci, fs.set k v)) = w') (hdg : decode cc pc = .ok (.putfield idx, 3))
    (kk : ∀ (H1 : Heap) (locs1 : List Loc), va_P D vwCl w' H1 → va_D A w' → va_S A s.heap H1 locs1 → W p l e R s m args below meth c H1 locs1 cells slots Q (F0 m (pc + 3) ls rest)) : W p l e R s m args below meth c H locs cells slots Q (F0 m pc ls (v :: .ref a :: rest)) := by
  subst hw
  exact va_put C.x C.b C.ts hin ty0 hty hnm C.o C.K hP hD hS q0 he hc k hk (C.ts _ hl) (fun _ h => h) hfin hd hn hfit hlen hdg kk
theorem z_putF (C : zC p s m args meth c cc own nL D cy) (hin2 : meth.name = "<init>") (hP : va_P D vwCl wv H) (hD : va_D A wv) (hS : va_S A s.heap H locs) (q0 : Nat) {a ci : Nat} {fs : List Value} (he : wv[q0]? = some (a, .inr (ci, fs))) {Cn : String} {T : u_T} {N : Nat} (hc : vwCl[ci]? = some (Cn, T, N)) (hin : ∀ w ∈ u_ws Cn T N, w ∈ zw) (ty0 : Nat → FieldType) (hty : ∀ k, k < N → parseFieldDescriptor (T k).2.2.1 = some (ty0 k)) (hnm : ∀ a, a < N → ∀ b, b < N → a ≠ b → (T a).2.1 ≠ (T b).2.1) (k : Nat) (hk : k < N) {idx : Nat} (hl : Cond.fieldLink own idx (T k).1 (T k).2.1 (T k).2.2.1 ∈ zw) (hfin : (T k).2.2.2 = true) (hdecl : (T k).1 = own) {ty : FieldType} (hd : parseFieldDescriptor (T k).2.2.1 = some ty) {v : Value} (hn : narrow ty v = v) (hfit : fits ty v = true) (hlen : k < fs.length) {w' : va_W} (hw : wv.set q0 (a, .inr (ci, fs.set k v)) = w') (hdg : decode cc pc = .ok (.putfield idx, 3))
    (kk : ∀ (H1 : Heap) (locs1 : List Loc), va_P D vwCl w' H1 → va_D A w' → va_S A s.heap H1 locs1 → W p l e R s m args below meth c H1 locs1 cells slots Q (F0 m (pc + 3) ls rest)) : W p l e R s m args below meth c H locs cells slots Q (F0 m pc ls (v :: .ref a :: rest)) := by
  subst hw
  exact va_putF C.x C.b C.ts hin ty0 hty hnm C.o C.K hP hD hS q0 he hc k hk (C.ts _ hl) (fun _ h => h) hfin hin2 hdecl hd hn hfit hlen hdg kk
/-! numbers: an Int32 that is a Nat -/
def zi (x : Int32) (n : Nat) : Prop := x = nI n
theorem zi_add {x y : Int32} {a b : Nat} (hx : zi x a) (hy : zi y b) : zi (x + y) (a + b) := by unfold zi at *; rw [hx, hy]; exact nI_add a b
theorem zi_mul {x y : Int32} {a b : Nat} (hx : zi x a) (hy : zi y b) : zi (x * y) (a * b) := by unfold zi at *; rw [hx, hy]; exact pk_mul a b
theorem zi_sub {x y : Int32} {a b : Nat} (hx : zi x a) (hy : zi y b) (h : b ≤ a) : zi (x - y) (a - b) := by unfold zi at *; rw [hx, hy]; exact pk_sub h
theorem zi_in {x : Int32} {k n : Nat} (h : zi x k) (hk : k < n) (hn : n < 2 ^ 31) : vp_in x n := by unfold zi at h; rw [h]; exact vp_in_nI hk hn
theorem zi_cl {x : Int32} {k n : Nat} (h : zi x k) (hk : k < n) (hn : n < 2 ^ 31) : x.toNatClampNeg = k := by unfold zi at h; rw [h]; exact nI_clamp (by omega)
theorem zi_lt {x y : Int32} {a b : Nat} (hx : zi x a) (hy : zi y b) (h : a < b) (hb : b < 2 ^ 31) : x < y := by unfold zi at *; rw [hx, hy]; exact nI_lt h hb
theorem zi_nlt {x y : Int32} {a b : Nat} (hx : zi x a) (hy : zi y b) (h : b ≤ a) (ha : a < 2 ^ 31) : ¬ x < y := by unfold zi at *; rw [hx, hy]; exact nI_nlt h ha
theorem zi_le {x y : Int32} {a b : Nat} (hx : zi x a) (hy : zi y b) (h : a ≤ b) (hb : b < 2 ^ 31) : x ≤ y := by unfold zi at *; rw [hx, hy]; exact nI_le h hb
theorem zi_nle {x y : Int32} {a b : Nat} (hx : zi x a) (hy : zi y b) (h : b < a) (ha : a < 2 ^ 31) : ¬ x ≤ y := by unfold zi at *; rw [hx, hy]; exact nI_ge h ha
theorem zi_eq {x y : Int32} {a b : Nat} (hx : zi x a) (hy : zi y b) (h : a = b) : x = y := by unfold zi at *; rw [hx, hy, h]
theorem zi_ne {x y : Int32} {a b : Nat} (hx : zi x a) (hy : zi y b) (h : a ≠ b) (ha : a < 2 ^ 31) (hb : b < 2 ^ 31) : ¬ x = y := by unfold zi at *; rw [hx, hy]; exact fun z => h ((nI_eq ha hb).mp z)
/-! arrays -/
theorem z_iald (C : zC p s m args meth c cc own nL D cy) (hP : va_P D vwCl wv H) (q0 : Nat) {a n : Nat} {f : Nat → Int32} (he : wv[q0]? = some (a, .inl (cy 0, n, .inl f))) {i : Int32} {k : Nat} (hi : zi i k) (hk : k < n) (hn : n < 2 ^ 31) {v : Int32} (hv : f k = v) (hdg : decode cc pc = .ok (.iaload, 1))
    (kk : W p l e R s m args below meth c H locs cells slots Q (F0 m (pc + 1) ls (.int v :: rest))) : W p l e R s m args below meth c H locs cells slots Q (F0 m pc ls (.int i :: .ref a :: rest)) := by
  refine va_iald C.x C.b C.K hP q0 0 he rfl (zi_in hi hk hn) hdg ?_
  rw [zi_cl hi hk hn, hv]
  exact kk
theorem z_zald (C : zC p s m args meth c cc own nL D cy) (hP : va_P D vwCl wv H) (q0 : Nat) {a n : Nat} {f : Nat → Int32} (he : wv[q0]? = some (a, .inl (cy 1, n, .inl f))) {i : Int32} {k : Nat} (hi : zi i k) (hk : k < n) (hn : n < 2 ^ 31) {v : Int32} (hv : f k = v) (hdg : decode cc pc = .ok (.baload, 1))
    (kk : W p l e R s m args below meth c H locs cells slots Q (F0 m (pc + 1) ls (.int v :: rest))) : W p l e R s m args below meth c H locs cells slots Q (F0 m pc ls (.int i :: .ref a :: rest)) := by
  refine va_zald C.x C.b C.K hP q0 1 he rfl (zi_in hi hk hn) hdg ?_
  rw [zi_cl hi hk hn, hv]
  exact kk
theorem z_bald (C : zC p s m args meth c cc own nL D cy) (hP : va_P D vwCl wv H) (q0 : Nat) {a n : Nat} {f : Nat → Int32} (he : wv[q0]? = some (a, .inl (cy 2, n, .inl f))) {i : Int32} {k : Nat} (hi : zi i k) (hk : k < n) (hn : n < 2 ^ 31) {v : Int32} (hv : f k = v) (hdg : decode cc pc = .ok (.baload, 1))
    (kk : W p l e R s m args below meth c H locs cells slots Q (F0 m (pc + 1) ls (.int v :: rest))) : W p l e R s m args below meth c H locs cells slots Q (F0 m pc ls (.int i :: .ref a :: rest)) := by
  refine va_bald C.x C.b C.K hP q0 2 he rfl (zi_in hi hk hn) hdg ?_
  rw [zi_cl hi hk hn, hv]
  exact kk
theorem z_cald (C : zC p s m args meth c cc own nL D cy) (hP : va_P D vwCl wv H) (q0 : Nat) {a n : Nat} {f : Nat → Int32} (he : wv[q0]? = some (a, .inl (cy 3, n, .inl f))) {i : Int32} {k : Nat} (hi : zi i k) (hk : k < n) (hn : n < 2 ^ 31) {v : Int32} (hv : f k = v) (hdg : decode cc pc = .ok (.caload, 1))
    (kk : W p l e R s m args below meth c H locs cells slots Q (F0 m (pc + 1) ls (.int v :: rest))) : W p l e R s m args below meth c H locs cells slots Q (F0 m pc ls (.int i :: .ref a :: rest)) := by
  refine va_cald C.x C.b C.K hP q0 3 he rfl (zi_in hi hk hn) hdg ?_
  rw [zi_cl hi hk hn, hv]
  exact kk
theorem z_iast (C : zC p s m args meth c cc own nL D cy) (hP : va_P D vwCl wv H) (hD : va_D A wv) (hS : va_S A s.heap H locs) (q0 : Nat) {a n : Nat} {f : Nat → Int32} (he : wv[q0]? = some (a, .inl (cy 0, n, .inl f))) {i x : Int32} {k : Nat} (hi : zi i k) (hk : k < n) (hn : n < 2 ^ 31) {w' : va_W} (hw : wv.set q0 (a, .inl (cy 0, n, .inl (upd f k x))) = w') (hdg : decode cc pc = .ok (.iastore, 1))
    (kk : ∀ (H1 : Heap) (locs1 : List Loc), va_P D vwCl w' H1 → va_D A w' → va_S A s.heap H1 locs1 → W p l e R s m args below meth c H1 locs1 cells slots Q (F0 m (pc + 1) ls rest)) : W p l e R s m args below meth c H locs cells slots Q (F0 m pc ls (.int x :: .int i :: .ref a :: rest)) := by
  subst hw
  refine va_iast C.x C.b C.K hP hD hS q0 0 he rfl (zi_in hi hk hn) hdg ?_
  rw [zi_cl hi hk hn]
  exact kk
theorem z_zast (C : zC p s m args meth c cc own nL D cy) (hP : va_P D vwCl wv H) (hD : va_D A wv) (hS : va_S A s.heap H locs) (q0 : Nat) {a n : Nat} {f : Nat → Int32} (he : wv[q0]? = some (a, .inl (cy 1, n, .inl f))) {i x : Int32} {k : Nat} (hi : zi i k) (hk : k < n) (hn : n < 2 ^ 31) (hx : vp_nar .boolean x = x) {w' : va_W} (hw : wv.set q0 (a, .inl (cy 1, n, .inl (upd f k x))) = w') (hdg : decode cc pc = .ok (.bastore, 1))
    (kk : ∀ (H1 : Heap) (locs1 : List Loc), va_P D vwCl w' H1 → va_D A w' → va_S A s.heap H1 locs1 → W p l e R s m args below meth c H1 locs1 cells slots Q (F0 m (pc + 1) ls rest)) : W p l e R s m args below meth c H locs cells slots Q (F0 m pc ls (.int x :: .int i :: .ref a :: rest)) := by
  subst hw
  refine va_zast C.x C.b C.K hP hD hS q0 1 he rfl (zi_in hi hk hn) hdg ?_
  rw [zi_cl hi hk hn, hx]
  exact kk
theorem z_bast (C : zC p s m args meth c cc own nL D cy) (hP : va_P D vwCl wv H) (hD : va_D A wv) (hS : va_S A s.heap H locs) (q0 : Nat) {a n : Nat} {f : Nat → Int32} (he : wv[q0]? = some (a, .inl (cy 2, n, .inl f))) {i x y : Int32} {k : Nat} (hi : zi i k) (hk : k < n) (hn : n < 2 ^ 31) (hx : vp_nar .byte x = y) {w' : va_W} (hw : wv.set q0 (a, .inl (cy 2, n, .inl (upd f k y))) = w') (hdg : decode cc pc = .ok (.bastore, 1))
    (kk : ∀ (H1 : Heap) (locs1 : List Loc), va_P D vwCl w' H1 → va_D A w' → va_S A s.heap H1 locs1 → W p l e R s m args below meth c H1 locs1 cells slots Q (F0 m (pc + 1) ls rest)) : W p l e R s m args below meth c H locs cells slots Q (F0 m pc ls (.int x :: .int i :: .ref a :: rest)) := by
  subst hw
  refine va_bast C.x C.b C.K hP hD hS q0 2 he rfl (zi_in hi hk hn) hdg ?_
  rw [zi_cl hi hk hn, hx]
  exact kk
theorem z_cast (C : zC p s m args meth c cc own nL D cy) (hP : va_P D vwCl wv H) (hD : va_D A wv) (hS : va_S A s.heap H locs) (q0 : Nat) {a n : Nat} {f : Nat → Int32} (he : wv[q0]? = some (a, .inl (cy 3, n, .inl f))) {i x y : Int32} {k : Nat} (hi : zi i k) (hk : k < n) (hn : n < 2 ^ 31) (hx : vp_nar .char x = y) {w' : va_W} (hw : wv.set q0 (a, .inl (cy 3, n, .inl (upd f k y))) = w') (hdg : decode cc pc = .ok (.castore, 1))
    (kk : ∀ (H1 : Heap) (locs1 : List Loc), va_P D vwCl w' H1 → va_D A w' → va_S A s.heap H1 locs1 → W p l e R s m args below meth c H1 locs1 cells slots Q (F0 m (pc + 1) ls rest)) : W p l e R s m args below meth c H locs cells slots Q (F0 m pc ls (.int x :: .int i :: .ref a :: rest)) := by
  subst hw
  refine va_cast C.x C.b C.K hP hD hS q0 3 he rfl (zi_in hi hk hn) hdg ?_
  rw [zi_cl hi hk hn, hx]
  exact kk
theorem z_alen (C : zC p s m args meth c cc own nL D cy) (hP : va_P D vwCl wv H) (q0 t0 : Nat) {a : Nat} {x : vp_A} (he : wv[q0]? = some (a, .inl (cy t0, x))) {ty : FieldType} (ht : (zT cy)[t0]? = some (cy t0, ty)) {v : Int32} (hv : Int32.ofNat x.1 = v) (hdg : decode cc pc = .ok (.arraylength, 1))
    (kk : W p l e R s m args below meth c H locs cells slots Q (F0 m (pc + 1) ls (.int v :: rest))) : W p l e R s m args below meth c H locs cells slots Q (F0 m pc ls (.ref a :: rest)) :=
  va_alen C.x C.b C.K hP q0 t0 he ht hv hdg kk
/-! arithmetic whose answer is named by the writer -/
theorem z_iadd (C : zC p s m args meth c cc own nL D cy) {x y v : Int32} (hdg : decode cc pc = .ok (.iadd, 1)) (hv : x + y = v) (kk : W p l e R s m args below meth c H locs cells slots Q (F0 m (pc + 1) ls (.int v :: rest))) : W p l e R s m args below meth c H locs cells slots Q (F0 m pc ls (.int y :: .int x :: rest)) := lv_iadd C.x C.b hdg (hv ▸ kk)
theorem z_isub (C : zC p s m args meth c cc own nL D cy) {x y v : Int32} (hdg : decode cc pc = .ok (.isub, 1)) (hv : x - y = v) (kk : W p l e R s m args below meth c H locs cells slots Q (F0 m (pc + 1) ls (.int v :: rest))) : W p l e R s m args below meth c H locs cells slots Q (F0 m pc ls (.int y :: .int x :: rest)) := lv_isub C.x C.b hdg (hv ▸ kk)
theorem z_imul (C : zC p s m args meth c cc own nL D cy) {x y v : Int32} (hdg : decode cc pc = .ok (.imul, 1)) (hv : x * y = v) (kk : W p l e R s m args below meth c H locs cells slots Q (F0 m (pc + 1) ls (.int v :: rest))) : W p l e R s m args below meth c H locs cells slots Q (F0 m pc ls (.int y :: .int x :: rest)) := lv_imul C.x C.b hdg (hv ▸ kk)
theorem z_ior (C : zC p s m args meth c cc own nL D cy) {x y v : Int32} (hdg : decode cc pc = .ok (.ior, 1)) (hv : x ||| y = v) (kk : W p l e R s m args below meth c H locs cells slots Q (F0 m (pc + 1) ls (.int v :: rest))) : W p l e R s m args below meth c H locs cells slots Q (F0 m pc ls (.int y :: .int x :: rest)) := lv_ior C.x C.b hdg (hv ▸ kk)
theorem z_iand (C : zC p s m args meth c cc own nL D cy) {x y v : Int32} (hdg : decode cc pc = .ok (.iand, 1)) (hv : x &&& y = v) (kk : W p l e R s m args below meth c H locs cells slots Q (F0 m (pc + 1) ls (.int v :: rest))) : W p l e R s m args below meth c H locs cells slots Q (F0 m pc ls (.int y :: .int x :: rest)) := lv_iand C.x C.b hdg (hv ▸ kk)
theorem z_idiv (C : zC p s m args meth c cc own nL D cy) {x y v : Int32} (hdg : decode cc pc = .ok (.idiv, 1)) (hne : ¬ y = 0) (hv : x / y = v) (kk : W p l e R s m args below meth c H locs cells slots Q (F0 m (pc + 1) ls (.int v :: rest))) : W p l e R s m args below meth c H locs cells slots Q (F0 m pc ls (.int y :: .int x :: rest)) := lv_idiv C.x C.b hdg hne (hv ▸ kk)
theorem z_irem (C : zC p s m args meth c cc own nL D cy) {x y v : Int32} (hdg : decode cc pc = .ok (.irem, 1)) (hne : ¬ y = 0) (hv : x - x / y * y = v) (kk : W p l e R s m args below meth c H locs cells slots Q (F0 m (pc + 1) ls (.int v :: rest))) : W p l e R s m args below meth c H locs cells slots Q (F0 m pc ls (.int y :: .int x :: rest)) := lv_irem C.x C.b hdg hne (hv ▸ kk)
/-! ends -/
theorem z_iret {w' : va_W} {R0 v : Int32} {mc ms : Nat} (C : zC p s m args meth c cc own nL D cy) (hr : meth.sig.returnType = some .int) (hP : va_P D vwCl wv H) (hD : va_D A wv) (hS : va_S A s.heap H locs) (hc : cells ≤ mc) (hs : slots ≤ ms) (hv : v = R0) (hw : wv = w') (hdg : decode cc pc = .ok (.ireturn, 1)) : W p l e R s m args below meth c H locs cells slots (MQ below (zQi D w' A R0) args s mc ms A) (F0 m pc ls [.int v]) := by
  subst hv hw
  refine W.widen hc hs ?_
  exact W.iret C.x C.b hr (fun t ht hW => ⟨⟨v, (), rfl, rfl, by rw [ht]; exact hP, hD⟩, hS.F ht⟩) hS.2.2 hdg C.lk
theorem z_zret {w' : va_W} {R0 v : Int32} {mc ms : Nat} {ty : FieldType} (C : zC p s m args meth c cc own nL D cy) (hr : meth.sig.returnType = some ty) (hn : narrow ty (.int v) = .int v) (hP : va_P D vwCl wv H) (hD : va_D A wv) (hS : va_S A s.heap H locs) (hc : cells ≤ mc) (hs : slots ≤ ms) (hv : v = R0) (hw : wv = w') (hdg : decode cc pc = .ok (.ireturn, 1)) : W p l e R s m args below meth c H locs cells slots (MQ below (zQi D w' A R0) args s mc ms A) (F0 m pc ls [.int v]) := by
  subst hv hw
  refine W.widen hc hs ?_
  exact W.zret C.x C.b hr hn (fun t ht hW => ⟨⟨v, (), rfl, rfl, by rw [ht]; exact hP, hD⟩, hS.F ht⟩) hS.2.2 hdg C.lk
theorem z_vret {w' : va_W} {mc ms : Nat} (C : zC p s m args meth c cc own nL D cy) (hr : meth.sig.returnType = none) (hP : va_P D vwCl wv H) (hD : va_D A wv) (hS : va_S A s.heap H locs) (hc : cells ≤ mc) (hs : slots ≤ ms) (hw : wv = w') (hdg : decode cc pc = .ok (.return_, 1)) : W p l e R s m args below meth c H locs cells slots (MQ below (zQv D w' A) args s mc ms A) (F0 m pc ls []) := by
  subst hw
  refine W.widen hc hs ?_
  exact W.vret C.x C.b hr (fun t ht hW => ⟨⟨(), rfl, trivial, by rw [ht]; exact hP, hD⟩, hS.F ht⟩) hS.2.2 hdg C.lk
/-! calls -/
def zFr (wv wc wc' w' : va_W) (isC isR isO : List Nat) : Prop := isC.map (fun i => wv[i]?) = wc.map some ∧ isR.all (fun i => decide (i < wv.length)) = true ∧ va_nd isR = true ∧ (∀ i ∈ isR, i ∉ isC) ∧ isO.map (fun i => ((isR.filterMap (fun i => wv[i]?)) ++ wc')[i]?) = w'.map some ∧ va_nd isO = true ∧ va_nd isC = true
theorem zsub {D : zG} {ws ws' : va_W} {H : Heap} (h : va_P D vwCl ws H) (is : List Nat) (hs : is.map (fun i => ws[i]?) = ws'.map some) : va_P D vwCl ws' H := by
  intro k q hk
  have h1 : (is.map (fun i => ws[i]?))[k]? = some (some q) := by rw [hs, List.getElem?_map, hk]; rfl
  rw [List.getElem?_map] at h1
  cases hi : is[k]? with
  | none => rw [hi] at h1; cases h1
  | some i => rw [hi] at h1; exact h i q (Option.some.inj h1)
theorem zrest {ws : va_W} : ∀ (is : List Nat), is.all (fun i => decide (i < ws.length)) = true → is.map (fun i => ws[i]?) = (is.filterMap (fun i => ws[i]?)).map some := by
  intro is
  induction is with
  | nil => intro _; rfl
  | cons i is ih =>
    intro h
    simp only [List.all_cons, Bool.and_eq_true, decide_eq_true_eq] at h
    have e : ws[i]? = some (ws[i]'h.1) := List.getElem?_eq_getElem h.1
    simp only [List.map_cons, List.filterMap_cons, e, ih h.2]
/-- what a callee finds -/
theorem zcallee {wc wc' w' : va_W} {isC isR isO : List Nat} {av : List Value} (hE : zEok E) (C : zC p s m args meth c cc own nL D cy) (hP : va_P D vwCl wv H) (hD : va_D A wv) (hS : va_S A s.heap H locs) (hA : ∀ q, s.heap.size ≤ q → A q) (hE0 : E A s s.heap) (hF : zFr wv wc wc' w' isC isR isO) : FrameBlind (zPre E D cy av wc H.size) ∧ ∀ U : State, U.heap = H → s.WarmedH U.vm → zPre E D cy av wc H.size av.toArray U := by
  obtain ⟨f1, f2, f3, f4, f5, f6, f7⟩ := hF
  refine ⟨zPre_blind hE, fun U hU hW => ⟨rfl, by rw [hU], by rw [hU]; exact zsub hP isC f1, va_K.moved hW.alike C.K, ?_, ?_⟩⟩
  · exact (hD.sub isC f7 f1).weaken (fun _ _ _ _ => trivial)
  · have e1 : E A s H := hE.1 A s s.heap H hE0 (fun a h1 h2 => hS.2.1 a h1 h2)
    rw [hU]
    exact hE.2.2.1 _ s U H hW (hE.2.1 A _ s H e1 (va_free hD hS hA isC f1))
theorem z_goi {T : Type} {val : T} {wc' w' : T → va_W} {r0 : T → Int32} {wc : va_W} {isC isR isO : List Nat} {a0 : Array Value} {mc ms : Nat} (hr : va_Run p l e R s m args below meth c H locs cells slots mc ms (F0 m pc ls st0) rest (zQi D (wc' val) (va_A wc H.size) (r0 val) a0) (va_A wc H.size)) (hP : va_P D vwCl wv H) (hD : va_D A wv) (hS : va_S A s.heap H locs) (hA : ∀ q, s.heap.size ≤ q → A q) (hF : zFr wv wc (wc' val) (w' val) isC isR isO)
    (kk : ∀ (o : T) (H1 : Heap) (locs1 : List Loc), o = val → va_P D vwCl (w' o) H1 → va_D A (w' o) → va_S A s.heap H1 locs1 → W p l e R s m args below meth c H1 locs1 (cells + mc) (slots + ms) Q (F0 m (pc + 3) ls (.int (r0 o) :: rest))) : W p l e R s m args below meth c H locs cells slots Q (F0 m pc ls st0) := by
  obtain ⟨f1, f2, f3, f4, f5, f6, f7⟩ := hF
  have hFc := va_free hD hS hA isC f1
  refine va_calli hr hS (fun q _ h => hFc q h) hFc (fun r u t H1 locs1 ht hvm hw hB hz1 hk1 hS1 => ?_)
  obtain ⟨hP1, hD1⟩ := hB
  rw [ht] at hP1
  obtain ⟨hP2, hD2⟩ := va_join hP hD isC isR f1 (zrest isR f2) f3 f4 hk1 hFc hP1 hD1
  rw [show r = r0 val from hw]
  exact kk val H1 locs1 rfl (zsub hP2 isO f5) (hD2.sub isO f6 f5) hS1
theorem z_gov {T : Type} {val : T} {wc' w' : T → va_W} {wc : va_W} {isC isR isO : List Nat} {a0 : Array Value} {mc ms : Nat} (hr : va_Run p l e R s m args below meth c H locs cells slots mc ms (F0 m pc ls st0) rest (zQv D (wc' val) (va_A wc H.size) a0) (va_A wc H.size)) (hP : va_P D vwCl wv H) (hD : va_D A wv) (hS : va_S A s.heap H locs) (hA : ∀ q, s.heap.size ≤ q → A q) (hF : zFr wv wc (wc' val) (w' val) isC isR isO)
    (kk : ∀ (o : T) (H1 : Heap) (locs1 : List Loc), o = val → va_P D vwCl (w' o) H1 → va_D A (w' o) → va_S A s.heap H1 locs1 → W p l e R s m args below meth c H1 locs1 (cells + mc) (slots + ms) Q (F0 m (pc + 3) ls rest)) : W p l e R s m args below meth c H locs cells slots Q (F0 m pc ls st0) := by
  obtain ⟨f1, f2, f3, f4, f5, f6, f7⟩ := hF
  have hFc := va_free hD hS hA isC f1
  refine va_callv hr hS (fun q _ h => hFc q h) hFc (fun u t H1 locs1 ht hvm hw hB hz1 hk1 hS1 => ?_)
  obtain ⟨hP1, hD1⟩ := hB
  rw [ht] at hP1
  obtain ⟨hP2, hD2⟩ := va_join hP hD isC isR f1 (zrest isR f2) f3 f4 hk1 hFc hP1 hD1
  exact kk val H1 locs1 rfl (zsub hP2 isO f5) (hD2.sub isO f6 f5) hS1
/-- which facts a call site has of its callee -/
def zSiteV (own : String) (idx : Nat) (y : MethodName) (cb : ByteArray) (nb : Nat) (ret : Option FieldType) (n : Nat) : Prop := GoodIn zw (wsV own idx y.cls y (zws y cb nb ret)) ∧ (y.cls = y.cls ∧ y.cls ≠ "java/lang/invoke/MethodHandle" ∧ y.cls ≠ "java/lang/invoke/VarHandle" ∧ (parseMethodDescriptor y.desc).map (fun d => d.parameters.length) = some n)
def zSiteS (own : String) (idx : Nat) (y : MethodName) (cb : ByteArray) (nb : Nat) (ret : Option FieldType) (n : Nat) : Prop := GoodIn zw (va_wsS own idx y (zws y cb nb ret)) ∧ (y.cls ≠ "java/lang/invoke/MethodHandle" ∧ y.cls ≠ "java/lang/invoke/VarHandle" ∧ (parseMethodDescriptor y.desc).map (fun d => d.parameters.length) = some n)
def zSiteN (y : MethodName) (cb : ByteArray) (nb : Nat) (ret : Option FieldType) (n : Nat) : Prop := GoodIn zw (zws y cb nb ret) ∧ Cond.initialized y.cls ∈ zw ∧ (y.cls ≠ "java/lang/invoke/MethodHandle" ∧ y.cls ≠ "java/lang/invoke/VarHandle" ∧ (parseMethodDescriptor y.desc).map (fun d => d.parameters.length) = some n)
theorem z_callVi {y : MethodName} {cb : ByteArray} {nb n idx : Nat} {ret : Option FieldType} {rf rl mc ms : Nat} {As : List Value} {isC isR isO : List Nat} {wc : va_W} {b : Nat} {T : Type} (val : T) (wc' w' : T → va_W) (r0 : T → Int32) (hM : ∀ sz, Met l y (zws y cb nb ret) { frames := rf, cells := mc, slots := ms, locals := rl } (zPre E D cy (.ref b :: As) wc sz) (zQi D (wc' val) (va_A wc sz) (r0 val)) mc ms (va_A wc sz)) (hE : zEok E) (C : zC p s m args meth c cc own nL D cy) (hs : zSiteV own idx y cb nb ret n) (hR : rf + 1 ≤ R.frames ∧ 8 + (nb + 11) + rl ≤ R.locals) (hP : va_P D vwCl wv H) (hD : va_D A wv) (hS : va_S A s.heap H locs) (hA : ∀ q, s.heap.size ≤ q → A q) (hE0 : E A s s.heap) (hF : zFr wv wc (wc' val) (w' val) isC isR isO) (q0 : Nat) {ci : Nat} {fs : List Value} {q : vw_C} (he : wv[q0]? = some (b, .inr (ci, fs))) (hc : vwCl[ci]? = some q) (hq : q.1 = y.cls) (hn : As.length = n) (hlen : ls.size = nL) (hcat : (rest.map fun v => v.category).sum ≤ 8) (hst : st0 = As.reverse ++ .ref b :: rest) (hdg : decode cc pc = .ok (.invokevirtual idx, 3)) (hf : cells + mc ≤ R.cells ∧ slots + ms ≤ R.slots)
    (kk : ∀ (o : T) (H1 : Heap) (locs1 : List Loc), o = val → va_P D vwCl (w' o) H1 → va_D A (w' o) → va_S A s.heap H1 locs1 → W p l e R s m args below meth c H1 locs1 (cells + mc) (slots + ms) Q (F0 m (pc + 3) ls (.int (r0 o) :: rest))) : W p l e R s m args below meth c H locs cells slots Q (F0 m pc ls st0) := by
  obtain ⟨h1, h2⟩ := zcallee (av := .ref b :: As) hE C hP hD hS hA hE0 hF
  have hrv := va_recv C.K hP hc he
  rw [hq] at hrv
  exact z_goi (va_runV (As := As) (rest := rest) C.fix (hM H.size) (cwV n C.ts hs.1 rfl rfl rfl hs.2 hR) ⟨h1, hrv, h2⟩ rfl hn hlen hst (lv_room hcat) hdg hf) hP hD hS hA hF kk
theorem z_callSi {y : MethodName} {cb : ByteArray} {nb n idx : Nat} {ret : Option FieldType} {rf rl mc ms : Nat} {As : List Value} {isC isR isO : List Nat} {wc : va_W} {T : Type} (val : T) (wc' w' : T → va_W) (r0 : T → Int32) (hM : ∀ sz, Met l y (zws y cb nb ret) { frames := rf, cells := mc, slots := ms, locals := rl } (zPre E D cy As wc sz) (zQi D (wc' val) (va_A wc sz) (r0 val)) mc ms (va_A wc sz)) (hE : zEok E) (C : zC p s m args meth c cc own nL D cy) (hs : zSiteS own idx y cb nb ret n) (hR : rf + 1 ≤ R.frames ∧ 8 + (nb + 11) + rl ≤ R.locals) (hP : va_P D vwCl wv H) (hD : va_D A wv) (hS : va_S A s.heap H locs) (hA : ∀ q, s.heap.size ≤ q → A q) (hE0 : E A s s.heap) (hF : zFr wv wc (wc' val) (w' val) isC isR isO) (hn : As.length = n) (hlen : ls.size = nL) (hcat : (rest.map fun v => v.category).sum ≤ 8) (hst : st0 = As.reverse ++ rest) (hdg : decode cc pc = .ok (.invokestatic idx, 3)) (hf : cells + mc ≤ R.cells ∧ slots + ms ≤ R.slots)
    (kk : ∀ (o : T) (H1 : Heap) (locs1 : List Loc), o = val → va_P D vwCl (w' o) H1 → va_D A (w' o) → va_S A s.heap H1 locs1 → W p l e R s m args below meth c H1 locs1 (cells + mc) (slots + ms) Q (F0 m (pc + 3) ls (.int (r0 o) :: rest))) : W p l e R s m args below meth c H locs cells slots Q (F0 m pc ls st0) := by
  obtain ⟨h1, h2⟩ := zcallee (av := As) hE C hP hD hS hA hE0 hF
  exact z_goi (va_runS (As := As) (rest := rest) C.fix (hM H.size) (va_cwS n C.ts hs.1 rfl rfl rfl hs.2 hR) ⟨h1, h2⟩ rfl hn hlen hst (lv_room hcat) hdg hf) hP hD hS hA hF kk
theorem z_callSNi {y : MethodName} {cb : ByteArray} {nb n idx : Nat} {ret : Option FieldType} {rf rl mc ms : Nat} {As : List Value} {isC isR isO : List Nat} {wc : va_W} {host : String} {T : Type} (val : T) (wc' w' : T → va_W) (r0 : T → Int32) (hM : ∀ sz, Met l y (zws y cb nb ret) { frames := rf, cells := mc, slots := ms, locals := rl } (zPre E D cy As wc sz) (zQi D (wc' val) (va_A wc sz) (r0 val)) mc ms (va_A wc sz)) (hE : zEok E) (C : zC p s m args meth c cc own nL D cy) (hs : zSiteN y cb nb ret n ∧ Cond.static y ∈ zw) (hnest : va_Nw (.methodLinkNest own idx y host) s) (hR : rf + 1 ≤ R.frames ∧ 8 + (nb + 11) + rl ≤ R.locals) (hP : va_P D vwCl wv H) (hD : va_D A wv) (hS : va_S A s.heap H locs) (hA : ∀ q, s.heap.size ≤ q → A q) (hE0 : E A s s.heap) (hF : zFr wv wc (wc' val) (w' val) isC isR isO) (hn : As.length = n) (hlen : ls.size = nL) (hcat : (rest.map fun v => v.category).sum ≤ 8) (hst : st0 = As.reverse ++ rest) (hdg : decode cc pc = .ok (.invokestatic idx, 3)) (hf : cells + mc ≤ R.cells ∧ slots + ms ≤ R.slots)
    (kk : ∀ (o : T) (H1 : Heap) (locs1 : List Loc), o = val → va_P D vwCl (w' o) H1 → va_D A (w' o) → va_S A s.heap H1 locs1 → W p l e R s m args below meth c H1 locs1 (cells + mc) (slots + ms) Q (F0 m (pc + 3) ls (.int (r0 o) :: rest))) : W p l e R s m args below meth c H locs cells slots Q (F0 m pc ls st0) := by
  obtain ⟨h1, h2⟩ := zcallee (av := As) hE C hP hD hS hA hE0 hF
  exact z_goi (va_runSN (As := As) (rest := rest) C.fix (hM H.size) ⟨va_cnB n C.ts hs.1.1 rfl rfl rfl hnest (C.ts _ hs.1.2.1) hs.1.2.2 hR, C.ts _ hs.2, trivial⟩ ⟨h1, h2⟩ rfl hn hlen hst (lv_room hcat) hdg hf) hP hD hS hA hF kk
theorem z_callVv {y : MethodName} {cb : ByteArray} {nb n idx : Nat} {ret : Option FieldType} {rf rl mc ms : Nat} {As : List Value} {isC isR isO : List Nat} {wc : va_W} {b : Nat} {T : Type} (val : T) (wc' w' : T → va_W) (hM : ∀ sz, Met l y (zws y cb nb ret) { frames := rf, cells := mc, slots := ms, locals := rl } (zPre E D cy (.ref b :: As) wc sz) (zQv D (wc' val) (va_A wc sz)) mc ms (va_A wc sz)) (hE : zEok E) (C : zC p s m args meth c cc own nL D cy) (hs : zSiteV own idx y cb nb ret n) (hR : rf + 1 ≤ R.frames ∧ 8 + (nb + 11) + rl ≤ R.locals) (hP : va_P D vwCl wv H) (hD : va_D A wv) (hS : va_S A s.heap H locs) (hA : ∀ q, s.heap.size ≤ q → A q) (hE0 : E A s s.heap) (hF : zFr wv wc (wc' val) (w' val) isC isR isO) (q0 : Nat) {ci : Nat} {fs : List Value} {q : vw_C} (he : wv[q0]? = some (b, .inr (ci, fs))) (hc : vwCl[ci]? = some q) (hq : q.1 = y.cls) (hn : As.length = n) (hlen : ls.size = nL) (hcat : (rest.map fun v => v.category).sum ≤ 8) (hst : st0 = As.reverse ++ .ref b :: rest) (hdg : decode cc pc = .ok (.invokevirtual idx, 3)) (hf : cells + mc ≤ R.cells ∧ slots + ms ≤ R.slots)
    (kk : ∀ (o : T) (H1 : Heap) (locs1 : List Loc), o = val → va_P D vwCl (w' o) H1 → va_D A (w' o) → va_S A s.heap H1 locs1 → W p l e R s m args below meth c H1 locs1 (cells + mc) (slots + ms) Q (F0 m (pc + 3) ls (rest))) : W p l e R s m args below meth c H locs cells slots Q (F0 m pc ls st0) := by
  obtain ⟨h1, h2⟩ := zcallee (av := .ref b :: As) hE C hP hD hS hA hE0 hF
  have hrv := va_recv C.K hP hc he
  rw [hq] at hrv
  exact z_gov (va_runV (As := As) (rest := rest) C.fix (hM H.size) (cwV n C.ts hs.1 rfl rfl rfl hs.2 hR) ⟨h1, hrv, h2⟩ rfl hn hlen hst (lv_room hcat) hdg hf) hP hD hS hA hF kk
theorem z_callSv {y : MethodName} {cb : ByteArray} {nb n idx : Nat} {ret : Option FieldType} {rf rl mc ms : Nat} {As : List Value} {isC isR isO : List Nat} {wc : va_W} {T : Type} (val : T) (wc' w' : T → va_W) (hM : ∀ sz, Met l y (zws y cb nb ret) { frames := rf, cells := mc, slots := ms, locals := rl } (zPre E D cy As wc sz) (zQv D (wc' val) (va_A wc sz)) mc ms (va_A wc sz)) (hE : zEok E) (C : zC p s m args meth c cc own nL D cy) (hs : zSiteS own idx y cb nb ret n) (hR : rf + 1 ≤ R.frames ∧ 8 + (nb + 11) + rl ≤ R.locals) (hP : va_P D vwCl wv H) (hD : va_D A wv) (hS : va_S A s.heap H locs) (hA : ∀ q, s.heap.size ≤ q → A q) (hE0 : E A s s.heap) (hF : zFr wv wc (wc' val) (w' val) isC isR isO) (hn : As.length = n) (hlen : ls.size = nL) (hcat : (rest.map fun v => v.category).sum ≤ 8) (hst : st0 = As.reverse ++ rest) (hdg : decode cc pc = .ok (.invokestatic idx, 3)) (hf : cells + mc ≤ R.cells ∧ slots + ms ≤ R.slots)
    (kk : ∀ (o : T) (H1 : Heap) (locs1 : List Loc), o = val → va_P D vwCl (w' o) H1 → va_D A (w' o) → va_S A s.heap H1 locs1 → W p l e R s m args below meth c H1 locs1 (cells + mc) (slots + ms) Q (F0 m (pc + 3) ls (rest))) : W p l e R s m args below meth c H locs cells slots Q (F0 m pc ls st0) := by
  obtain ⟨h1, h2⟩ := zcallee (av := As) hE C hP hD hS hA hE0 hF
  exact z_gov (va_runS (As := As) (rest := rest) C.fix (hM H.size) (va_cwS n C.ts hs.1 rfl rfl rfl hs.2 hR) ⟨h1, h2⟩ rfl hn hlen hst (lv_room hcat) hdg hf) hP hD hS hA hF kk
theorem z_callSNv {y : MethodName} {cb : ByteArray} {nb n idx : Nat} {ret : Option FieldType} {rf rl mc ms : Nat} {As : List Value} {isC isR isO : List Nat} {wc : va_W} {host : String} {T : Type} (val : T) (wc' w' : T → va_W) (hM : ∀ sz, Met l y (zws y cb nb ret) { frames := rf, cells := mc, slots := ms, locals := rl } (zPre E D cy As wc sz) (zQv D (wc' val) (va_A wc sz)) mc ms (va_A wc sz)) (hE : zEok E) (C : zC p s m args meth c cc own nL D cy) (hs : zSiteN y cb nb ret n ∧ Cond.static y ∈ zw) (hnest : va_Nw (.methodLinkNest own idx y host) s) (hR : rf + 1 ≤ R.frames ∧ 8 + (nb + 11) + rl ≤ R.locals) (hP : va_P D vwCl wv H) (hD : va_D A wv) (hS : va_S A s.heap H locs) (hA : ∀ q, s.heap.size ≤ q → A q) (hE0 : E A s s.heap) (hF : zFr wv wc (wc' val) (w' val) isC isR isO) (hn : As.length = n) (hlen : ls.size = nL) (hcat : (rest.map fun v => v.category).sum ≤ 8) (hst : st0 = As.reverse ++ rest) (hdg : decode cc pc = .ok (.invokestatic idx, 3)) (hf : cells + mc ≤ R.cells ∧ slots + ms ≤ R.slots)
    (kk : ∀ (o : T) (H1 : Heap) (locs1 : List Loc), o = val → va_P D vwCl (w' o) H1 → va_D A (w' o) → va_S A s.heap H1 locs1 → W p l e R s m args below meth c H1 locs1 (cells + mc) (slots + ms) Q (F0 m (pc + 3) ls (rest))) : W p l e R s m args below meth c H locs cells slots Q (F0 m pc ls st0) := by
  obtain ⟨h1, h2⟩ := zcallee (av := As) hE C hP hD hS hA hE0 hF
  exact z_gov (va_runSN (As := As) (rest := rest) C.fix (hM H.size) ⟨va_cnB n C.ts hs.1.1 rfl rfl rfl hnest (C.ts _ hs.1.2.1) hs.1.2.2 hR, C.ts _ hs.2, trivial⟩ ⟨h1, h2⟩ rfl hn hlen hst (lv_room hcat) hdg hf) hP hD hS hA hF kk
theorem z_iret' {T : Type} {val : T} (o : T) {w' : T → va_W} {r0 : T → Int32} {v : Int32} {mc ms : Nat} (hx : val = o) (C : zC p s m args meth c cc own nL D cy) (hr : meth.sig.returnType = some .int) (hP : va_P D vwCl wv H) (hD : va_D A wv) (hS : va_S A s.heap H locs) (hc : cells ≤ mc) (hs : slots ≤ ms) (hv : v = r0 o) (hw : wv = w' o) (hdg : decode cc pc = .ok (.ireturn, 1)) : W p l e R s m args below meth c H locs cells slots (MQ below (zQi D (w' val) A (r0 val)) args s mc ms A) (F0 m pc ls [.int v]) := by
  subst hx
  exact z_iret C hr hP hD hS hc hs hv hw hdg
theorem z_zret' {T : Type} {val : T} (o : T) {w' : T → va_W} {r0 : T → Int32} {v : Int32} {mc ms : Nat} {ty : FieldType} (hx : val = o) (C : zC p s m args meth c cc own nL D cy) (hr : meth.sig.returnType = some ty) (hn : narrow ty (.int v) = .int v) (hP : va_P D vwCl wv H) (hD : va_D A wv) (hS : va_S A s.heap H locs) (hc : cells ≤ mc) (hs : slots ≤ ms) (hv : v = r0 o) (hw : wv = w' o) (hdg : decode cc pc = .ok (.ireturn, 1)) : W p l e R s m args below meth c H locs cells slots (MQ below (zQi D (w' val) A (r0 val)) args s mc ms A) (F0 m pc ls [.int v]) := by
  subst hx
  exact z_zret C hr hn hP hD hS hc hs hv hw hdg
theorem z_vret' {T : Type} {val : T} (o : T) {w' : T → va_W} {mc ms : Nat} (hx : val = o) (C : zC p s m args meth c cc own nL D cy) (hr : meth.sig.returnType = none) (hP : va_P D vwCl wv H) (hD : va_D A wv) (hS : va_S A s.heap H locs) (hc : cells ≤ mc) (hs : slots ≤ ms) (hw : wv = w' o) (hdg : decode cc pc = .ok (.return_, 1)) : W p l e R s m args below meth c H locs cells slots (MQ below (zQv D (w' val) A) args s mc ms A) (F0 m pc ls []) := by
  subst hx
  exact z_vret C hr hP hD hS hc hs hw hdg
end ZR
