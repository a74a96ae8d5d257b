section ZCP
variable {p : Program} {l : Launch} {e : Env} {R : Room} {s : State} {m : MethodId} {args : Array Value} {below : List Frame} {meth : Method} {c : Code} {H : Heap} {locs : List Loc} {cells slots : Nat} {Q : State → Prop}
variable {cc : ByteArray} {own : String} {nL : Nat} {D : zG} {cy : Nat → ClassId} {E : zEn} {A : Nat → Prop} {wv : va_W} {pc : Nat} {ls : Array Slot} {rest st0 : List Value}
theorem z_copy {index : Nat} (C : zC p s m args meth c cc own nL D cy) (hml : ls.size = nL) (hlink : Cond.methodLink own index arraycopyName ∈ zw) (hP : va_P D vwCl wv H) (hD : va_D A wv) (hS : va_S A s.heap H locs) (q0 q1 : Nat) {a0 a n0 n1 : Nat} {f g : Nat → Int32} (ha0 : wv[q0]? = some (a0, .inl (cy 0, n0, .inl f))) (ha1 : wv[q1]? = some (a, .inl (cy 0, n1, .inl g))) {n : Int32} (N : Nat) (hn0 : ¬ n < 0) (hN : n.toNatClampNeg = N) (h4 : N ≤ n0) (h5 : N ≤ n1) (hR : 1 ≤ R.frames ∧ (rest.map fun v => v.category).sum + (nativeFrameWords "java/lang/System" "arraycopy" 5 + 11) ≤ R.locals) {w' : va_W} (hw : wv.set q1 (a, .inl (cy 0, n1, .inl (va_cpy f g 0 0 N))) = w') (hdg : decode cc pc = .ok (.invokestatic index, 3))
    (kk : ∀ (H1 : Heap) (locs1 : List Loc), va_P D vwCl w' H1 → va_D A w' → va_S A s.heap H1 locs1 → W p l e R s m args below meth c H1 locs1 cells slots Q (F0 m (pc + 3) ls rest)) : W p l e R s m args below meth c H locs cells slots Q (F0 m pc ls (.int n :: .int 0 :: .ref a :: .int 0 :: .ref a0 :: rest)) := by
  subst hw
  subst hN
  exact va_copyi C.x C.b (C.2.2.1.trans hml.symm) C.o (C.ts _ hlink) (C.ts (.native arraycopyName) zm158) (C.ts (.static arraycopyName) zm159) (C.ts (.initialized "java/lang/System") zm160) C.K hP hD hS q0 q1 0 0 ha0 ha1 rfl rfl rfl (by decide) (by decide) hn0 (by simpa using h4) (by simpa using h5) (fun _ _ => rfl) hR.1 hR.2 hdg kk
end ZCP
def zbl (f : Nat → Int32) (n : Nat) : Prop := ∀ i, i < n → f i = 0 ∨ f i = 1
theorem zbl_upd {f : Nat → Int32} {n i : Nat} {v : Int32} (h : zbl f n) (hv : v = 0 ∨ v = 1) : zbl (upd f i v) n := by
  intro j hj
  by_cases e : j = i
  · subst e; rw [pk_us]; exact hv
  · rw [pk_un e]; exact h j hj
theorem zbl_0 (n : Nat) : zbl (fun _ => 0) n := fun _ _ => Or.inl rfl
theorem zi_min {x y : Int32} {a b : Nat} (hx : zi x a) (hy : zi y b) (ha : a < 2 ^ 31) (hb : b < 2 ^ 31) : zi (if y < x then y else x) (min a b) := by
  have e := zi_lt_iff hy hx hb ha
  by_cases h : y < x
  · rw [if_pos h, show min a b = b from by have := e.mp h; omega]; exact hy
  · rw [if_neg h, show min a b = a from by have : ¬ b < a := fun z => h (e.mpr z); omega]; exact hx
theorem zi_max {x y : Int32} {a b : Nat} (hx : zi x a) (hy : zi y b) (ha : a < 2 ^ 31) (hb : b < 2 ^ 31) : zi (if x < y then y else x) (max a b) := by
  have e := zi_lt_iff hx hy ha hb
  by_cases h : x < y
  · rw [if_pos h, show max a b = b from by have := e.mp h; omega]; exact hy
  · rw [if_neg h, show max a b = a from by have : ¬ a < b := fun z => h (e.mpr z); omega]; exact hx
