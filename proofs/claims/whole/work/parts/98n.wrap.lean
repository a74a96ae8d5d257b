/-! the law's wrappers: a call in a try block -/
abbrev zwsH (y : MethodName) (b : ByteArray) (n : Nat) (hh : List (Nat × Nat × Nat × Nat)) : List Cond := .codeWith y b n (some .int) hh :: zw
def zOl (cy : Nat → ClassId) (oo : Nat) (f : Nat → Int64) : va_W := [(oo, .inl (cy 4, 1, .inr (.inl f)))]
def zOd (cy : Nat → ClassId) (od : Nat) (f : Nat → UInt64) : va_W := [(od, .inl (cy 5, 1, .inr (.inr (.inr (.inl f)))))]
/-- which throws a row of a table doesn't take -/
def zOutN (E : zEn) : Prop := ∀ A U H, E A U H → ∀ q ∈ [("java/util/NoSuchElementException", "java/lang/IllegalStateException"), ("java/lang/IllegalStateException", "java/lang/IndexOutOfBoundsException"), ("java/lang/IllegalStateException", "java/lang/IllegalArgumentException"), ("java/lang/IllegalArgumentException", "java/lang/IndexOutOfBoundsException")], va_Nc q.1 q.2 U
theorem zin01 : vp_in (0 : Int32) 1 := vp_in_nI (show 0 < 1 by decide) (by decide)
section WR
variable {l : Launch} {E : zEn} {D : zG} {cy : Nat → ClassId}
theorem z_ofH {y : MethodName} {b : ByteArray} {nL : Nat} {r : Option FieldType} {hh : List (Nat × Nat × Nat × Nat)} {rm : Room} {av : List Value} {wv : va_W} {Qc : (Nat → Prop) → Array Value → State → Outcome → State → Prop} {mc ms : Nat} {sz : Nat} (hy : plainName y.cls = true) (hn : (lg_sl av).length ≤ nL) {lv : List (Nat × Value)} (hlv : lv_args 0 av = lv)
    (body : ∀ (p : Program) (e : Env) (s : State) (m : MethodId) (below : List Frame) (meth : Method) (c : Code) (A : Nat → Prop) (ls : Array Slot), zC p s m av.toArray meth c b y.cls nL D cy → meth.sig.returnType = r → c.exceptionTable.toList = tableOf hh → (∀ q, s.heap.size ≤ q → A q) → va_P D vwCl wv s.heap → va_D A wv → va_S A s.heap s.heap [] → E A s s.heap → lv_has ls nL lv →
      W p l e rm s m av.toArray below meth c s.heap [] 0 0 (MQ below (Qc A) av.toArray s mc ms A) (F0 m 0 ls [])) : Met l y (.codeWith y b nL r hh :: zw) rm (zPre E D cy av wv sz) (Qc (va_A wv sz)) mc ms (va_A wv sz) := by
  refine va_MetW (cc := b) (maxL := nL) (ret := r) (hh := hh) hy rfl ?_
  intro p e s m args below meth c s₁ B hml hv
  obtain ⟨rfl, hsz, hP, hK, hD0, hE0⟩ := hv
  subst hsz
  have hts := atoms_spec (ws := .codeWith y b nL r hh :: zw) B.pre
  have hl := lv_entry av (n := nL) hn
  rw [lg_entry_eq]
  rw [hlv] at hl
  exact body p e s m below meth c (va_A wv s.heap.size) _ ⟨B.exec, B.bytes, hml, findClass_of_methodNamed B.named, fun w h => hts w (List.mem_cons_of_mem _ h), hK, B.notSynchronized⟩ B.returns (vx_table (x := y) B (hts _ List.mem_cons_self)) (fun q h => Or.inr h) hP hD0.self va_S.rf hE0 hl
end WR
section WC
variable {p : Program} {l : Launch} {e : Env} {R : Room} {s : State} {m : MethodId} {args : Array Value} {below : List Frame} {meth : Method} {c : Code} {H : Heap} {locs : List Loc} {cells slots : Nat} {Q : State → Prop}
variable {cc : ByteArray} {nL : Nat} {D : zG} {cy : Nat → ClassId} {E : zEn} {A : Nat → Prop} {q : Nat} {ls : Array Slot} {wv : va_W} {rest st0 : List Value} {pc : Nat} {own : String}
theorem z_god {wc wc' w' : va_W} {isC isR isO : List Nat} {a0 : Array Value} {mc ms : Nat} {r0 : UInt64} (hr : va_Run p l e R s m args below meth c H locs cells slots mc ms (F0 m pc ls st0) rest (zQd D wc' (va_A wc H.size) r0 a0) (va_A wc H.size)) (hP : va_P D vwCl wv H) (hD : va_D A wv) (hS : va_S A s.heap H locs) (hA : ∀ q, s.heap.size ≤ q → A q) (hF : zFr wv wc wc' w' isC isR isO)
    (kk : ∀ (H1 : Heap) (locs1 : List Loc), va_P D vwCl w' H1 → va_D A w' → va_S A s.heap H1 locs1 → W p l e R s m args below meth c H1 locs1 (cells + mc) (slots + ms) Q (F0 m (pc + 3) ls (.double r0 :: rest))) : W p l e R s m args below meth c H locs cells slots Q (F0 m pc ls st0) := by
  obtain ⟨f1, f2, f3, f4, f5, f6, f7⟩ := hF
  have hFc := va_free hD hS hA isC f1
  refine va_calld hr hS (fun q _ h => hFc q h) hFc (fun r u t H1 locs1 ht hvm hw hB hz1 hk1 hS1 => ?_)
  obtain ⟨hP1, hD1⟩ := hB
  rw [ht] at hP1
  obtain ⟨hP2, hD2⟩ := va_join hP hD isC isR f1 (zrest isR f2) f3 f4 hk1 hFc hP1 hD1
  rw [show r = r0 from hw]
  exact kk H1 locs1 (zsub hP2 isO f5) (hD2.sub isO f6 f5) hS1
theorem z_gof {wc wc' w' : va_W} {isC isR isO : List Nat} {a0 : Array Value} {mc ms : Nat} {r0 : UInt32} (hr : va_Run p l e R s m args below meth c H locs cells slots mc ms (F0 m pc ls st0) rest (zQf D wc' (va_A wc H.size) r0 a0) (va_A wc H.size)) (hP : va_P D vwCl wv H) (hD : va_D A wv) (hS : va_S A s.heap H locs) (hA : ∀ q, s.heap.size ≤ q → A q) (hF : zFr wv wc wc' w' isC isR isO)
    (kk : ∀ (H1 : Heap) (locs1 : List Loc), va_P D vwCl w' H1 → va_D A w' → va_S A s.heap H1 locs1 → W p l e R s m args below meth c H1 locs1 (cells + mc) (slots + ms) Q (F0 m (pc + 3) ls (.float r0 :: rest))) : W p l e R s m args below meth c H locs cells slots Q (F0 m pc ls st0) := by
  obtain ⟨f1, f2, f3, f4, f5, f6, f7⟩ := hF
  have hFc := va_free hD hS hA isC f1
  refine va_callf hr hS (fun q _ h => hFc q h) hFc (fun r u t H1 locs1 ht hvm hw hB hz1 hk1 hS1 => ?_)
  obtain ⟨hP1, hD1⟩ := hB
  rw [ht] at hP1
  obtain ⟨hP2, hD2⟩ := va_join hP hD isC isR f1 (zrest isR f2) f3 f4 hk1 hFc hP1 hD1
  rw [show r = r0 from hw]
  exact kk H1 locs1 (zsub hP2 isO f5) (hD2.sub isO f6 f5) hS1
variable {yC : MethodName} {cb : ByteArray} {nb n idx rf rl mc ms : Nat} {ret : Option FieldType} {As : List Value} {Wc Wc' : va_W} {o0 oo od : Nat} {fs : List Value} {f : Nat → Int64} {g : Nat → UInt64}
/-- an int comes back -/
theorem w_int {off : Int} {tgt : Nat} {r : Int32} (C : zC p s m args meth c cc RL nL D cy) (hr : meth.sig.returnType = some .int) (hE : zEok E) (hE0 : E A s s.heap) (hA : ∀ q, s.heap.size ≤ q → A q)
    (hM : ∀ sz, Met l yC (zws yC cb nb ret) { frames := rf, cells := mc, slots := ms, locals := rl } (zPre E D cy (.ref o0 :: As) Wc sz) (zQi D Wc' (va_A Wc sz) r) mc ms (va_A Wc sz)) (hs : zSiteV RL idx yC cb nb ret n) (hy : RX8 = yC.cls) (hW : Wc[1]? = some (o0, .inr (10, fs))) (hn : As.length = n) (hlen : ls.size = nL) (hR : rf + 1 ≤ R.frames ∧ 8 + (nb + 11) + rl ≤ R.locals) (hf : mc ≤ R.cells ∧ ms ≤ R.slots)
    (hP : va_P D vwCl (zOl cy oo f ++ Wc) H) (hD : va_D A (zOl cy oo f ++ Wc)) (hS : va_S A s.heap H locs)
    (d0 : decode cc q = .ok (.invokevirtual idx, 3)) (d1 : decode cc (q + 3) = .ok (.i2l, 1)) (d2 : decode cc (q + 4) = .ok (.lastore, 1)) (d3 : decode cc (q + 5) = .ok (.goto off, 3)) (ht : ((q + 5 : Nat) : Int) + off = (tgt : Int)) (d4 : decode cc tgt = .ok (.iconst 0, 1)) (d5 : decode cc (tgt + 1) = .ok (.ireturn, 1)) :
    W p l e R s m args below meth c H locs 0 0 (MQ below (zQi D (zOl cy oo (vp_updL f 0 r.toInt64) ++ Wc') A 0) args s mc ms A) (F0 m q ls (As.reverse ++ [.ref o0, .int 0, .ref oo])) := by
  refine z_callVi (T := Unit) (As := As) (rest := [.int 0, .ref oo]) () (fun _ => Wc') (fun _ => zOl cy oo f ++ Wc') (fun _ => r) hM hE C hs hR hP hD hS hA hE0 (zFr_end (zOl cy oo f) Wc Wc') 2 (ci := 10) (fs := fs) (q := (RX8, TX8, 11)) hW rfl hy hn hlen (Nat.le_of_ble_eq_true rfl) rfl d0 (by omega) (fun _ H1 locs1 _ hP hD hS => ?_)
  refine lv_i2l C.x C.b d1 rfl ?_
  refine va_last C.x C.b C.K hP hD hS 0 4 (f := f) rfl rfl zin01 d2 (fun H2 locs2 hP hD hS => ?_)
  refine lv_goto C.x C.b d3 ht ?_
  refine lv_iconst (v := 0) C.x C.b d4 (by decide) ?_
  exact z_iret C hr hP hD hS (by omega) (by omega) rfl rfl d5
/-- a boolean comes back -/
theorem w_bool {off : Int} {tgt : Nat} {r : Int32} (C : zC p s m args meth c cc RL nL D cy) (hr : meth.sig.returnType = some .int) (hE : zEok E) (hE0 : E A s s.heap) (hA : ∀ q, s.heap.size ≤ q → A q)
    (hM : ∀ sz, Met l yC (zws yC cb nb ret) { frames := rf, cells := mc, slots := ms, locals := rl } (zPre E D cy (.ref o0 :: As) Wc sz) (zQi D Wc' (va_A Wc sz) r) mc ms (va_A Wc sz)) (hs : zSiteV RL idx yC cb nb ret n) (hy : RX8 = yC.cls) (hW : Wc[1]? = some (o0, .inr (10, fs))) (hn : As.length = n) (hlen : ls.size = nL) (hR : rf + 1 ≤ R.frames ∧ 8 + (nb + 11) + rl ≤ R.locals) (hf : mc ≤ R.cells ∧ ms ≤ R.slots)
    (hP : va_P D vwCl (zOl cy oo f ++ Wc) H) (hD : va_D A (zOl cy oo f ++ Wc)) (hS : va_S A s.heap H locs)
    (d0 : decode cc q = .ok (.invokevirtual idx, 3)) (d1 : decode cc (q + 3) = .ok (.ifCond .eq 7, 3)) (d2 : decode cc (q + 6) = .ok (.lconst 1, 1)) (d3 : decode cc (q + 7) = .ok (.goto 4, 3)) (d4 : decode cc (q + 10) = .ok (.lconst 0, 1)) (d5 : decode cc (q + 11) = .ok (.lastore, 1)) (d6 : decode cc (q + 12) = .ok (.goto off, 3)) (ht : ((q + 12 : Nat) : Int) + off = (tgt : Int)) (d7 : decode cc tgt = .ok (.iconst 0, 1)) (d8 : decode cc (tgt + 1) = .ok (.ireturn, 1)) :
    W p l e R s m args below meth c H locs 0 0 (MQ below (zQi D (zOl cy oo (vp_updL f 0 (if r = 0 then 0 else 1)) ++ Wc') A 0) args s mc ms A) (F0 m q ls (As.reverse ++ [.ref o0, .int 0, .ref oo])) := by
  refine z_callVi (T := Unit) (As := As) (rest := [.int 0, .ref oo]) () (fun _ => Wc') (fun _ => zOl cy oo f ++ Wc') (fun _ => r) hM hE C hs hR hP hD hS hA hE0 (zFr_end (zOl cy oo f) Wc Wc') 2 (ci := 10) (fs := fs) (q := (RX8, TX8, 11)) hW rfl hy hn hlen (Nat.le_of_ble_eq_true rfl) rfl d0 (by omega) (fun _ H1 locs1 _ hP hD hS => ?_)
  refine lv_if_eq (tgt := q + 10) C.x C.b d1 (by omega) (fun hz => ?_) (fun hz => ?_)
  · rw [if_pos hz]
    refine lv_lconst (v := 0) C.x C.b d4 rfl ?_
    refine va_last C.x C.b C.K hP hD hS 0 4 (f := f) rfl rfl zin01 d5 (fun H2 locs2 hP hD hS => ?_)
    refine lv_goto C.x C.b d6 ht ?_
    refine lv_iconst (v := 0) C.x C.b d7 (by decide) ?_
    exact z_iret C hr hP hD hS (by omega) (by omega) rfl rfl d8
  · rw [if_neg hz]
    refine lv_lconst (v := 1) C.x C.b d2 rfl ?_
    refine lv_goto (tgt := q + 11) C.x C.b d3 (by omega) ?_
    refine va_last C.x C.b C.K hP hD hS 0 4 (f := f) rfl rfl zin01 d5 (fun H2 locs2 hP hD hS => ?_)
    refine lv_goto C.x C.b d6 ht ?_
    refine lv_iconst (v := 0) C.x C.b d7 (by decide) ?_
    exact z_iret C hr hP hD hS (by omega) (by omega) rfl rfl d8
/-- it throws, and a row of the table takes it -/
theorem w_thr {w0 : va_W} {st1 : List Value} {hh hp hq : List (Nat × Nat × Nat × Nat)} {x0 x1 hpc ct kn : Nat} {E0 : String} {lv : List (Nat × Value)} (C : zC p s m args meth c cc RL nL D cy) (hr : meth.sig.returnType = some .int) (hE : zEok E) (hE0 : E A s s.heap) (hA : ∀ q, s.heap.size ≤ q → A q) (hT : c.exceptionTable.toList = tableOf hh)
    (hM : ∀ sz, vx_Met l yC (zws yC cb nb ret) { frames := rf, cells := mc, slots := ms, locals := rl } (zPre E D cy (.ref o0 :: As) Wc sz) zNo (zX D Wc' (va_A Wc sz) E0) mc ms (va_A Wc sz)) (hs : zSiteV RL idx yC cb nb ret n) (hy : RX8 = yC.cls) (hW : (w0 ++ Wc)[kn]? = some (o0, .inr (10, fs))) (hn : As.length = n) (hl : lv_has ls nL lv) (hR : rf + 1 ≤ R.frames ∧ 8 + (nb + 11) + rl ≤ R.locals) (hf : mc ≤ R.cells ∧ ms ≤ R.slots)
    (hP : va_P D vwCl (w0 ++ Wc) H) (hD : va_D A (w0 ++ Wc)) (hS : va_S A s.heap H locs) (hcat : (st1.map fun v => v.category).sum ≤ 8)
    (hsp : hh = hp ++ (x0, x1, hpc, ct) :: hq) (hpre : ∀ z ∈ hp, z.2.2.2 ≠ 0 ∧ ∃ nm : String, Cond.classLink RL z.2.2.2 nm ∈ zw ∧ va_Nc E0 nm s) (hcov : covers ⟨x0, x1, hpc, ct⟩ q = true) (hct : ct ≠ 0) (hlink : Cond.classLink RL ct E0 ∈ zw) (hcast : va_Nw (.castable E0 E0) s)
    (d0 : decode cc q = .ok (.invokevirtual idx, 3)) (kx : ∀ (q9 : Nat) (H1 : Heap) (locs1 : List Loc), va_P D vwCl (w0 ++ Wc') H1 → va_D A (w0 ++ Wc') → va_S A s.heap H1 locs1 → W p l e R s m args below meth c H1 locs1 mc ms Q (F0 m hpc ls [.ref q9])) :
    W p l e R s m args below meth c H locs 0 0 Q (F0 m q ls (As.reverse ++ .ref o0 :: st1)) := by
  obtain ⟨h1, h2⟩ := zcallee (av := .ref o0 :: As) hE C hP hD hS hA hE0 (zFr_end w0 Wc Wc')
  obtain ⟨cell, r1, r2, r3⟩ := va_recv C.K hP (ci := 10) (q := (RX8, TX8, 11)) rfl hW
  have hrv' : ∃ cell : Cell, H[o0]? = some cell ∧ cell.vm.isStatics = false ∧ s.vm.findClass yC.cls = some cell.cls := ⟨cell, r1, r2, by rw [← hy]; exact r3⟩
  refine z_got (vx_runV (As := As) (rest := st1) C.fix (hM H.size) (cwV n C.ts hs.1 rfl rfl rfl hs.2 hR) ⟨h1, hrv', h2⟩ rfl hn hl.1 rfl (lv_room hcat) d0 (by omega)) hP hD hS hA (zFr_end w0 Wc Wc') (fun ce q9 H1 locs1 hP1 hD1 hS1 hce hcv hcl => ?_)
  refine vx_catch C.o (tableOf hp) ⟨x0, x1, hpc, ct⟩ (tableOf hq) (by rw [hT, hsp]; simp [tableOf]) (fun z hz => ?_) hcov hct (C.ts _ hlink) (hcast.use rfl) hce hcv hcl ?_
  · obtain ⟨z', hz', rfl⟩ := List.mem_map.mp hz
    obtain ⟨z0, nm, z1, z2⟩ := hpre z' hz'
    exact Or.inr ⟨z0, nm, C.ts _ z1, z2⟩
  · rw [Nat.zero_add, Nat.zero_add]
    exact kx q9 H1 locs1 hP1 hD1 hS1
end WC
