/-! own layer over the kit's rows: one word list, one context, contracts with exact worlds -/
abbrev vwCl : List vw_C := [(RJ0, TJ0, 4), (RJ4, TJ4, 4), (RJx00060, TJx00060, 6), (RJx7c733, TJx7c733, 6), (RX1, TX1, 11), (RX3, TX3, 3), (RX4, TX4, 4), (RX5, TX5, 6), (RX6, TX6, 10), (RX7, TX7, 4), (RX8, TX8, 11), (RX9, TX9, 20)]
abbrev zT (cy : Nat → ClassId) : List (ClassId × FieldType) := [(cy 0, .int), (cy 1, .boolean), (cy 2, .byte), (cy 3, .char), (cy 4, .long), (cy 5, .double), (cy 6, .object "PinballScorer$Table"), (cy 7, .object "PinballScorer$Command")]
abbrev zG : Type := (Nat → ClassId) × (Nat → Nat → Nat)
abbrev zEn : Type := (Nat → Prop) → State → Heap → Prop
/-- what stands outside the world: it is kept, it narrows, it moves to an alike table -/
def zEok (E : zEn) : Prop := (∀ A U H H1, E A U H → (∀ a : Nat, a < H.size → ¬ A a → H1[a]? = H[a]?) → E A U H1) ∧ (∀ A B U H, E A U H → (∀ q, B q → A q) → E B U H) ∧ (∀ A (s U : State) H, s.WarmedH U.vm → E A s H → E A U H) ∧ (∀ A (u U : State) H, u.vm = U.vm → E A u H → E A U H)
/-- the machine at a method: code, tables, classes -/
def zC (p : Program) (s : State) (m : MethodId) (args : Array Value) (meth : Method) (c : Code) (cc : ByteArray) (own : String) (nL : Nat) (D : zG) (cy : Nat → ClassId) : Prop :=
  p.tables.exec = Jvm.exec ∧ c.code = cc ∧ c.maxLocals = nL ∧ s.vm.findClass own = some m.cls ∧ (∀ w ∈ zw, w.before args s = true) ∧ va_K D vwCl (zT cy) s ∧ meth.locks = false
/-- a method's start -/
def zPre (E : zEn) (D : zG) (cy : Nat → ClassId) (av : List Value) (wv : va_W) (sz : Nat) : Array Value → State → Prop :=
  va_Pc av (fun U => U.heap.size = sz ∧ va_P D vwCl wv U.heap ∧ va_K D vwCl (zT cy) U ∧ va_D (fun _ => True) wv ∧ E (va_A wv sz) U U.heap)
def zQi (D : zG) (W' : va_W) (A : Nat → Prop) (R : Int32) : Array Value → State → Outcome → State → Prop :=
  va_Qi (fun (r : Int32) (_ : Unit) => r = R) (fun _ t => va_P D vwCl W' t.heap ∧ va_D A W') A
def zQv (D : zG) (W' : va_W) (A : Nat → Prop) : Array Value → State → Outcome → State → Prop :=
  va_Qv (fun (_ : Unit) => True) (fun _ t => va_P D vwCl W' t.heap ∧ va_D A W') A
abbrev zws (y : MethodName) (b : ByteArray) (n : Nat) (r : Option FieldType) : List Cond := .code y b n r :: zw
theorem zw_good : ∀ w ∈ zw, goodWord w = true := fun w h => (List.mem_filter.mp h).2
theorem zw_gi {l : List Cond} (h : ∀ w ∈ l, w ∈ zw) : GoodIn zw l := fun w hw => ⟨h w hw, good_of_word (zw_good w (h w hw))⟩
theorem zw_ws {y : MethodName} {b : ByteArray} {n : Nat} {r : Option FieldType} (h : .code y b n r ∈ zw) : GoodIn zw (zws y b n r) := zw_gi (fun w hw => (List.mem_cons.mp hw).elim (fun e => by rw [e]; exact h) (fun h => h))
theorem zw_V {own : String} {idx : Nat} {C : String} {y : MethodName} {b : ByteArray} {n : Nat} {r : Option FieldType} (h1 : .methodLink own idx y ∈ zw) (h2 : .instanceMethod y ∈ zw) (h3 : .selects C y y ∈ zw) (h4 : .initialized C ∈ zw) (h5 : .code y b n r ∈ zw) : GoodIn zw (wsV own idx C y (zws y b n r)) := by
  refine zw_gi (fun w hw => ?_)
  simp only [wsV, zws, List.mem_append, List.mem_cons, List.not_mem_nil, or_false] at hw
  rcases hw with (h | h | h | h) | h | h
  · rw [h]; exact h1
  · rw [h]; exact h2
  · rw [h]; exact h3
  · rw [h]; exact h4
  · rw [h]; exact h5
  · exact h
theorem zw_S {own : String} {idx : Nat} {y : MethodName} {b : ByteArray} {n : Nat} {r : Option FieldType} (h1 : .methodLink own idx y ∈ zw) (h2 : .static y ∈ zw) (h4 : .initialized y.cls ∈ zw) (h5 : .code y b n r ∈ zw) : GoodIn zw (va_wsS own idx y (zws y b n r)) := by
  refine zw_gi (fun w hw => ?_)
  simp only [va_wsS, zws, List.mem_append, List.mem_cons, List.not_mem_nil, or_false] at hw
  rcases hw with (h | h | h) | h | h
  · rw [h]; exact h1
  · rw [h]; exact h2
  · rw [h]; exact h4
  · rw [h]; exact h5
  · exact h
theorem zPre_blind {E : zEn} (hE : zEok E) {D : zG} {cy : Nat → ClassId} {av : List Value} {wv : va_W} {sz : Nat} : FrameBlind (zPre E D cy av wv sz) := by
  intro a U g mk q
  obtain ⟨h0, h1, h2, h3, h4, h5⟩ := q
  exact ⟨h0, h1, h2, va_K.moved (u := U) (U := U.calling g mk a) (Vm.Alike.refl U.vm) h3, h4, hE.2.2.2 _ U (U.calling g mk a) _ rfl h5⟩
section ZZ
variable {p : Program} {l : Launch} {e : Env} {R : Room} {s : State} {m : MethodId} {args : Array Value} {below : List Frame} {meth : Method} {c : Code} {H : Heap} {locs : List Loc} {cells slots : Nat} {Q : State → Prop}
variable {cc : ByteArray} {own : String} {nL : Nat} {D : zG} {cy : Nat → ClassId} {E : zEn} {A : Nat → Prop} {W0 : va_W} {pc : Nat} {ls : Array Slot} {rest st0 : List Value}
theorem zC.fix (C : zC p s m args meth c cc own nL D cy) : CallFix p m c cc nL s args zw own := ⟨C.1, C.2.1, C.2.2.1, C.2.2.2.1, C.2.2.2.2.1⟩
theorem zC.x (C : zC p s m args meth c cc own nL D cy) : p.tables.exec = Jvm.exec := C.1
theorem zC.b (C : zC p s m args meth c cc own nL D cy) : c.code = cc := C.2.1
theorem zC.o (C : zC p s m args meth c cc own nL D cy) : s.vm.findClass own = some m.cls := C.2.2.2.1
theorem zC.ts (C : zC p s m args meth c cc own nL D cy) : ∀ w ∈ zw, w.before args s = true := C.2.2.2.2.1
theorem zC.K (C : zC p s m args meth c cc own nL D cy) : va_K D vwCl (zT cy) s := C.2.2.2.2.2.1
theorem zC.lk (C : zC p s m args meth c cc own nL D cy) : meth.locks = false := C.2.2.2.2.2.2
/-- from a contract to the walk of its body -/
theorem z_of {y : MethodName} {b : ByteArray} {r : Option FieldType} {rm : Room} {av : List Value} {wv : va_W} {Qc : (Nat → Prop) → Array Value → State → Outcome → State → Prop} {mc ms : Nat} {sz : Nat} (hy : plainName y.cls = true) (hn : (lg_sl av).length ≤ nL) {lv : List (Nat × Value)} (hlv : lv_args 0 av = lv)
    (body : ∀ (p : Program) (e : Env) (s : State) (m : MethodId) (below : List Frame) (meth : Method) (c : Code) (A : Nat → Prop) (ls : Array Slot), zC p s m av.toArray meth c b y.cls nL D cy → meth.sig.returnType = r → meth.name = y.name → (∀ q, s.heap.size ≤ q → A q) → va_P D vwCl wv s.heap → va_D A wv → va_S A s.heap s.heap [] → E A s s.heap → lv_has ls nL lv →
      W p l e rm s m av.toArray below meth c s.heap [] 0 0 (MQ below (Qc A) av.toArray s mc ms A) (F0 m 0 ls [])) : Met l y (zws y b nL r) rm (zPre E D cy av wv sz) (Qc (va_A wv sz)) mc ms (va_A wv sz) := by
  refine Met.ofW (cc := b) (maxL := nL) (ret := r) hy rfl ?_
  intro p e s m args below meth c s₁ B hml hv
  obtain ⟨rfl, hsz, hP, hK, hD0, hE0⟩ := hv
  subst hsz
  have hts := atoms_spec (ws := zws y b nL r) B.pre
  have hl := lv_entry av (n := nL) hn
  rw [lg_entry_eq]
  rw [hlv] at hl
  exact body p e s m below meth c (va_A wv s.heap.size) _ ⟨B.exec, B.bytes, hml, findClass_of_methodNamed B.named, fun w h => hts w (List.mem_cons_of_mem _ h), hK, B.notSynchronized⟩ B.returns (name_of_methodNamed B.named B.method).1 (fun q h => Or.inr h) hP hD0.self va_S.rf hE0 hl
end ZZ
