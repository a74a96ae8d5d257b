/-! rows of the law's body -/
def zSiteW (idx : Nat) (y : MethodName) (cb : ByteArray) (nb : Nat) (hh : List (Nat × Nat × Nat × Nat)) (n : Nat) : Prop := GoodIn zw (va_wsS RL idx y (zwsH y cb nb hh)) ∧ (y.cls ≠ "java/lang/invoke/MethodHandle" ∧ y.cls ≠ "java/lang/invoke/VarHandle" ∧ (parseMethodDescriptor y.desc).map (fun d => d.parameters.length) = some n)
theorem zw_SH {idx : Nat} {y : MethodName} {b : ByteArray} {n : Nat} {hh : List (Nat × Nat × Nat × Nat)} (h1 : .methodLink RL idx y ∈ zw) (h2 : .static y ∈ zw) (h4 : .initialized y.cls ∈ zw) (h5 : .codeWith y b n (some .int) hh ∈ zw) : GoodIn zw (va_wsS RL idx y (zwsH y b n hh)) := by
  refine zw_gi (fun w hw => ?_)
  simp only [va_wsS, zwsH, List.mem_append, List.mem_cons, List.not_mem_nil, or_false] at hw
  rcases hw with (h | h | h) | h | h
  · rw [h]; exact h1
  · rw [h]; exact h2
  · rw [h]; exact h4
  · rw [h]; exact h5
  · exact h
section LB
variable {p : Program} {l : Launch} {e : Env} {R : Room} {s : State} {m : MethodId} {args : Array Value} {below : List Frame} {meth : Method} {c : Code} {H : Heap} {locs : List Loc} {cells slots : Nat} {Q : State → Prop}
variable {D : zG} {cy : Nat → ClassId} {E : zEn} {A : Nat → Prop} {P : Nat} {ls : Array Slot} {rest st0 : List Value} {cc : ByteArray}
variable {b n L o0 h0 oo od : Nat} {xs : Nat → Int32}
theorem y_arg1 (C : zC p s m args meth c cc RL 9 D cy) (hX : va_X b L xs s s.heap) (hbl : b < s.heap.size) (hbA : ¬ A b) (hS : va_S A s.heap H locs) (ha : ls[0]? = some (.val (.ref b))) (hi : ls[5]? = some (.val (.int (nI n)))) (hn : n + 1 < L) (hL : L < 2 ^ 31)
    (d0 : decode cc P = .ok (.aload_n 0, 1)) (d1 : decode cc (P + 1) = .ok (.iload 5, 2)) (d2 : decode cc (P + 3) = .ok (.iconst 1, 1)) (d3 : decode cc (P + 4) = .ok (.iadd, 1)) (d4 : decode cc (P + 5) = .ok (.iaload, 1))
    (kk : W p l e R s m args below meth c H locs cells slots Q (F0 m (P + 6) ls (.int (xs (n + 1)) :: rest))) : W p l e R s m args below meth c H locs cells slots Q (F0 m P ls rest) := by
  refine lv_aload_n C.x C.b d0 rfl ha ?_
  refine lv_iload C.x C.b d1 hi ?_
  refine lv_iconst (v := 1) C.x C.b d2 (by decide) ?_
  refine z_iadd C (v := nI (n + 1)) d3 (by rw [nI_succ]) ?_
  refine va_sld C.x C.b hX hbl hbA hS (vp_in_nI hn hL) d4 ?_
  rw [nI_clamp (by omega)]
  exact kk
theorem y_arg2 (C : zC p s m args meth c cc RL 9 D cy) (hX : va_X b L xs s s.heap) (hbl : b < s.heap.size) (hbA : ¬ A b) (hS : va_S A s.heap H locs) (ha : ls[0]? = some (.val (.ref b))) (hi : ls[5]? = some (.val (.int (nI n)))) (hn : n + 2 < L) (hL : L < 2 ^ 31)
    (d0 : decode cc P = .ok (.aload_n 0, 1)) (d1 : decode cc (P + 1) = .ok (.iload 5, 2)) (d2 : decode cc (P + 3) = .ok (.iconst 2, 1)) (d3 : decode cc (P + 4) = .ok (.iadd, 1)) (d4 : decode cc (P + 5) = .ok (.iaload, 1))
    (kk : W p l e R s m args below meth c H locs cells slots Q (F0 m (P + 6) ls (.int (xs (n + 2)) :: rest))) : W p l e R s m args below meth c H locs cells slots Q (F0 m P ls rest) := by
  refine lv_aload_n C.x C.b d0 rfl ha ?_
  refine lv_iload C.x C.b d1 hi ?_
  refine lv_iconst (v := 2) C.x C.b d2 (by decide) ?_
  refine z_iadd C (v := nI (n + 2)) d3 (by rw [show (2 : Int32) = nI 2 from rfl, nI_add]) ?_
  refine va_sld C.x C.b hX hbl hbA hS (vp_in_nI hn hL) d4 ?_
  rw [nI_clamp (by omega)]
  exact kk
/-- a wrapper is called, its answer goes to place 6 -/
theorem y_wrap {y : MethodName} {cb : ByteArray} {nb k idx : Nat} {hh : List (Nat × Nat × Nat × Nat)} {rf rl mc ms : Nat} {As : List Value} {G G' : va_W} {r : Int32} {lv lv' : List (Nat × Value)} (hM : ∀ sz, Met l y (zwsH y cb nb hh) { frames := rf, cells := mc, slots := ms, locals := rl } (zPre E D cy As G sz) (zQi D G' (va_A G sz) r) mc ms (va_A G sz)) (hE : zEok E) (C : zC p s m args meth c cc RL 9 D cy) (hs : zSiteW idx y cb nb hh k) (hR : rf + 1 ≤ R.frames ∧ 8 + (nb + 11) + rl ≤ R.locals) (hP : va_P D vwCl G H) (hD : va_D A G) (hS : va_S A s.heap H locs) (hA : ∀ q, s.heap.size ≤ q → A q) (hE0 : E A s s.heap) (hn : As.length = k) (hl : lv_has ls 9 lv) (hst : st0 = As.reverse ++ []) (hf : cells + mc ≤ R.cells ∧ slots + ms ≤ R.slots)
    (d0 : decode cc P = .ok (.invokestatic idx, 3)) (d1 : decode cc (P + 3) = .ok (.istore 6, 2)) (hlv : (6, Value.int r) :: lv.filter (fun q => !(q.1 == 6) && !(q.1 + 1 == 6 && q.2.category == 2)) = lv')
    (kk : ∀ (H1 : Heap) (locs1 : List Loc) (ls : Array Slot), va_P D vwCl G' H1 → va_D A G' → va_S A s.heap H1 locs1 → lv_has ls 9 lv' → W p l e R s m args below meth c H1 locs1 (cells + mc) (slots + ms) Q (F0 m (P + 5) ls [])) : W p l e R s m args below meth c H locs cells slots Q (F0 m P ls st0) := by
  obtain ⟨h1, h2⟩ := zcallee (av := As) hE C hP hD hS hA hE0 (zFr_end [] G G')
  refine z_goi (T := Unit) (val := ()) (wc' := fun _ => G') (w' := fun _ => G') (r0 := fun _ => r) (vx_runSW (As := As) (rest := []) C.fix (hM H.size) (vx_cwSW k C.ts hs.1 rfl rfl rfl hs.2 hR) ⟨h1, h2⟩ rfl hn hl.1 hst (lv_room (Nat.zero_le _)) d0 hf) hP hD hS hA (zFr_end [] G G') (fun _ H1 locs1 _ hP hD hS => ?_)
  exact lv_istore C.x C.b d1 hl (by decide) hlv (fun ls hl => kk H1 locs1 ls hP hD hS hl)
/-- a method of the reference is called, its answer goes to place 7 -/
theorem y_mod {y : MethodName} {cb : ByteArray} {nb k idx : Nat} {ret : Option FieldType} {rf rl mc ms : Nat} {As : List Value} {G G' : va_W} {fs : List Value} {r : Int32} {lv lv' : List (Nat × Value)} (hM : ∀ sz, Met l y (zws y cb nb ret) { frames := rf, cells := mc, slots := ms, locals := rl } (zPre E D cy (.ref h0 :: As) G sz) (zQi D G' (va_A G sz) r) mc ms (va_A G sz)) (hE : zEok E) (C : zC p s m args meth c cc RL 9 D cy) (hs : zSiteV RL idx y cb nb ret k) (hy : RX9 = y.cls) (hG : G[3]? = some (h0, .inr (11, fs))) (hR : rf + 1 ≤ R.frames ∧ 8 + (nb + 11) + rl ≤ R.locals) (hP : va_P D vwCl G H) (hD : va_D A G) (hS : va_S A s.heap H locs) (hA : ∀ q, s.heap.size ≤ q → A q) (hE0 : E A s s.heap) (hn : As.length = k) (hl : lv_has ls 9 lv) (hst : st0 = As.reverse ++ [.ref h0]) (hf : cells + mc ≤ R.cells ∧ slots + ms ≤ R.slots)
    (d0 : decode cc P = .ok (.invokevirtual idx, 3)) (d1 : decode cc (P + 3) = .ok (.istore 7, 2)) (hlv : (7, Value.int r) :: lv.filter (fun q => !(q.1 == 7) && !(q.1 + 1 == 7 && q.2.category == 2)) = lv')
    (kk : ∀ (H1 : Heap) (locs1 : List Loc) (ls : Array Slot), va_P D vwCl G' H1 → va_D A G' → va_S A s.heap H1 locs1 → lv_has ls 9 lv' → W p l e R s m args below meth c H1 locs1 (cells + mc) (slots + ms) Q (F0 m (P + 5) ls [])) : W p l e R s m args below meth c H locs cells slots Q (F0 m P ls st0) := by
  refine z_callVi (T := Unit) (As := As) (rest := []) () (fun _ => G') (fun _ => G') (fun _ => r) hM hE C hs hR hP hD hS hA hE0 (zFr_end [] G G') 3 (ci := 11) (fs := fs) (q := (RX9, TX9, 20)) hG rfl hy hn hl.1 (Nat.zero_le _) hst d0 hf (fun _ H1 locs1 _ hP hD hS => ?_)
  exact lv_istore C.x C.b d1 hl (by decide) hlv (fun ls hl => kk H1 locs1 ls hP hD hS hl)
/-- the number of the throw is asked and compared -/
theorem y_thrown {idx : Nat} {G : va_W} {fs : List Value} {k : Int32} {lv : List (Nat × Value)} (hM : ∀ sz, Met l yX9_thrown (zws yX9_thrown cX9_thrown 1 (some .int)) { frames := 0, cells := 0, slots := 0, locals := 0 } (zPre E D cy [.ref h0] G sz) (zQi D G (va_A G sz) k) 0 0 (va_A G sz)) (hE : zEok E) (C : zC p s m args meth c cc RL 9 D cy) (hs : zSiteV RL idx yX9_thrown cX9_thrown 1 (some .int) 0) (hG : G[3]? = some (h0, .inr (11, fs))) (hR : 1 ≤ R.frames ∧ 20 ≤ R.locals) (hP : va_P D vwCl G H) (hD : va_D A G) (hS : va_S A s.heap H locs) (hA : ∀ q, s.heap.size ≤ q → A q) (hE0 : E A s s.heap) (hl : lv_has ls 9 lv) (hf : cells ≤ R.cells ∧ slots ≤ R.slots) (h2 : ls[2]? = some (.val (.ref h0))) (h6 : ls[6]? = some (.val (.int k)))
    (d0 : decode cc P = .ok (.aload_n 2, 1)) (d1 : decode cc (P + 1) = .ok (.invokevirtual idx, 3)) (d2 : decode cc (P + 4) = .ok (.iload 6, 2)) (d3 : decode cc (P + 6) = .ok (.if_icmp .eq 5, 3)) (d4 : decode cc (P + 11) = .ok (.iload 6, 2))
    (kk : ∀ (H1 : Heap) (locs1 : List Loc), va_P D vwCl G H1 → va_D A G → va_S A s.heap H1 locs1 → W p l e R s m args below meth c H1 locs1 cells slots Q (F0 m (P + 13) ls [.int k])) : W p l e R s m args below meth c H locs cells slots Q (F0 m P ls []) := by
  refine lv_aload_n C.x C.b d0 rfl h2 ?_
  refine z_callVi (T := Unit) (As := []) (rest := []) () (fun _ => G) (fun _ => G) (fun _ => k) hM hE C hs ⟨by omega, by omega⟩ hP hD hS hA hE0 (zFr_end [] G G) 3 (ci := 11) (fs := fs) (q := (RX9, TX9, 20)) hG rfl rfl rfl hl.1 (Nat.zero_le _) rfl d1 hf (fun _ H1 locs1 _ hP hD hS => ?_)
  refine lv_iload C.x C.b d2 h6 ?_
  refine lv_icmp_eq (tgt := P + 11) C.x C.b d3 (by omega) (fun _ => ?_) (fun h => absurd rfl h)
  refine lv_iload C.x C.b d4 h6 ?_
  exact kk H1 locs1 hP hD hS
theorem lgc_rf (x : Int64) : lg_cmp x x = 0 := by
  unfold lg_cmp
  have h : ¬ x < x := Int64.lt_irrefl
  simp [h]
/-- an int answer is compared -/
theorem y_cmpI {G : va_W} {k r : Int32} {off : Int} {tgt : Nat} (C : zC p s m args meth c cc RL 9 D cy) (hG : k = 0 → ∃ f : Nat → Int64, G[0]? = some (oo, .inl (cy 4, 1, .inr (.inl f))) ∧ f 0 = r.toInt64) (hP : va_P D vwCl G H) (h3 : ls[3]? = some (.val (.ref oo))) (h7 : ls[7]? = some (.val (.int r)))
    (d0 : decode cc (P + 13) = .ok (.ifCond .ne 15, 3)) (d1 : decode cc (P + 16) = .ok (.aload_n 3, 1)) (d2 : decode cc (P + 17) = .ok (.iconst 0, 1)) (d3 : decode cc (P + 18) = .ok (.laload, 1)) (d4 : decode cc (P + 19) = .ok (.iload 7, 2)) (d5 : decode cc (P + 21) = .ok (.i2l, 1)) (d6 : decode cc (P + 22) = .ok (.lcmp, 1)) (d7 : decode cc (P + 23) = .ok (.ifCond .eq 5, 3)) (d8 : decode cc (P + 28) = .ok (.goto off, 3)) (ht : ((P + 28 : Nat) : Int) + off = (tgt : Int))
    (kk : W p l e R s m args below meth c H locs cells slots Q (F0 m tgt ls [])) : W p l e R s m args below meth c H locs cells slots Q (F0 m (P + 13) ls [.int k]) := by
  refine lv_if_ne (tgt := P + 28) C.x C.b d0 (by omega) (fun _ => ?_) (fun h => ?_)
  · exact lv_goto C.x C.b d8 ht kk
  · obtain ⟨f, hf, hf0⟩ := hG h
    refine lv_aload_n C.x C.b d1 rfl h3 ?_
    refine lv_iconst (v := 0) C.x C.b d2 (by decide) ?_
    refine va_lald C.x C.b C.K hP 0 4 (f := f) hf rfl zin01 d3 ?_
    refine lv_iload C.x C.b d4 h7 ?_
    refine lv_i2l C.x C.b d5 rfl ?_
    refine W.lcmp C.x C.b d6 ?_
    rw [show f (Int32.toNatClampNeg 0) = r.toInt64 from hf0, lgc_rf]
    refine lv_if_eq (tgt := P + 28) C.x C.b d7 (by omega) (fun _ => ?_) (fun h => absurd rfl h)
    exact lv_goto C.x C.b d8 ht kk
/-- a boolean answer is compared -/
theorem y_cmpZ {G : va_W} {k r : Int32} {off : Int} {tgt : Nat} (C : zC p s m args meth c cc RL 9 D cy) (hG : k = 0 → ∃ f : Nat → Int64, G[0]? = some (oo, .inl (cy 4, 1, .inr (.inl f))) ∧ f 0 = (if r = 0 then 0 else 1)) (hP : va_P D vwCl G H) (h3 : ls[3]? = some (.val (.ref oo))) (h7 : ls[7]? = some (.val (.int r)))
    (d0 : decode cc (P + 13) = .ok (.ifCond .ne 22, 3)) (d1 : decode cc (P + 16) = .ok (.aload_n 3, 1)) (d2 : decode cc (P + 17) = .ok (.iconst 0, 1)) (d3 : decode cc (P + 18) = .ok (.laload, 1)) (d4 : decode cc (P + 19) = .ok (.iload 7, 2)) (d5 : decode cc (P + 21) = .ok (.ifCond .eq 7, 3)) (e1 : decode cc (P + 24) = .ok (.lconst 1, 1)) (e2 : decode cc (P + 25) = .ok (.goto 4, 3)) (e3 : decode cc (P + 28) = .ok (.lconst 0, 1)) (d6 : decode cc (P + 29) = .ok (.lcmp, 1)) (d7 : decode cc (P + 30) = .ok (.ifCond .eq 5, 3)) (d8 : decode cc (P + 35) = .ok (.goto off, 3)) (ht : ((P + 35 : Nat) : Int) + off = (tgt : Int))
    (kk : W p l e R s m args below meth c H locs cells slots Q (F0 m tgt ls [])) : W p l e R s m args below meth c H locs cells slots Q (F0 m (P + 13) ls [.int k]) := by
  refine lv_if_ne (tgt := P + 35) C.x C.b d0 (by omega) (fun _ => ?_) (fun h => ?_)
  · exact lv_goto C.x C.b d8 ht kk
  · obtain ⟨f, hf, hf0⟩ := hG h
    refine lv_aload_n C.x C.b d1 rfl h3 ?_
    refine lv_iconst (v := 0) C.x C.b d2 (by decide) ?_
    refine va_lald C.x C.b C.K hP 0 4 (f := f) hf rfl zin01 d3 ?_
    refine lv_iload C.x C.b d4 h7 ?_
    have hf1 : f (Int32.toNatClampNeg 0) = (if r = 0 then 0 else 1) := hf0
    refine lv_if_eq (tgt := P + 28) C.x C.b d5 (by omega) (fun hz => ?_) (fun hz => ?_)
    · rw [hf1, if_pos hz]
      refine lv_lconst (v := 0) C.x C.b e3 rfl ?_
      refine W.lcmp C.x C.b d6 ?_
      rw [lgc_rf]
      refine lv_if_eq (tgt := P + 35) C.x C.b d7 (by omega) (fun _ => ?_) (fun h => absurd rfl h)
      exact lv_goto C.x C.b d8 ht kk
    · rw [hf1, if_neg hz]
      refine lv_lconst (v := 1) C.x C.b e1 rfl ?_
      refine lv_goto (tgt := P + 29) C.x C.b e2 (by omega) ?_
      refine W.lcmp C.x C.b d6 ?_
      rw [lgc_rf]
      refine lv_if_eq (tgt := P + 35) C.x C.b d7 (by omega) (fun _ => ?_) (fun h => absurd rfl h)
      exact lv_goto C.x C.b d8 ht kk
theorem dcm_rf {x : UInt64} (h : vf_n64 x) (op : CmpOp) : Op.cmpValue (FP.dcmp x x) op = 0 := by
  have h1 : x.toNat % 2 ^ 63 ≤ 9218868437227405312 := by
    unfold vf_n64 at h
    rw [UInt64.le_iff_toNat_le, UInt64.toNat_and, show (0x7fffffffffffffff : UInt64).toNat = 2 ^ 63 - 1 from rfl, Nat.and_two_pow_sub_one_eq_mod] at h
    exact h
  have h2 := fp_d64 _ h1
  have hc : ∀ z : Int, compare z z = .eq := fun z => by simp [compare, compareOfLessAndEq]
  have h3 : FP.dcmp x x = some .eq := by
    show Jvm.FP.Core.order (Jvm.FP.Core.decode Jvm.FP.Core.b64 x.toNat) (Jvm.FP.Core.decode Jvm.FP.Core.b64 x.toNat) = some .eq
    cases hz : Jvm.FP.Core.decode Jvm.FP.Core.b64 x.toNat with
    | nan => exact absurd hz h2
    | inf s => exact congrArg some (hc _)
    | fin s c q => exact congrArg some (hc _)
  rw [h3]
  rfl
theorem fp_f2d {x : UInt32} (h : vf_n32 x) : vf_n64 (FP.f2d x) := by
  have h1 : x.toNat % 2 ^ 31 ≤ 2139095040 := by
    unfold vf_n32 at h
    rw [UInt32.le_iff_toNat_le, UInt32.toNat_and, show (0x7fffffff : UInt32).toNat = 2 ^ 31 - 1 from rfl, Nat.and_two_pow_sub_one_eq_mod] at h
    exact h
  have h2 := fp_d32 _ h1
  have hm : ∀ n : Nat, n < 2 ^ 64 → n % 2 ^ 63 ≤ 9218868437227405312 → vf_n64 (UInt64.ofNat n) := by
    intro n h1 h2
    show UInt64.ofNat n &&& 0x7fffffffffffffff ≤ 0x7ff0000000000000
    rw [UInt64.le_iff_toNat_le, UInt64.toNat_and, show (0x7fffffffffffffff : UInt64).toNat = 2 ^ 63 - 1 from rfl, Nat.and_two_pow_sub_one_eq_mod, UInt64.toNat_ofNat', Nat.mod_eq_of_lt h1]
    exact h2
  have hn : Jvm.FP.Core.fIsNaN x = false := decide_eq_false h2
  have e1 : FP.f2d x = UInt64.ofNat (Jvm.FP.Core.encode Jvm.FP.Core.b64 (Jvm.FP.Core.round Jvm.FP.Core.b64 (Jvm.FP.Core.decode Jvm.FP.Core.b32 x.toNat))) := by
    show (if Jvm.FP.Core.fIsNaN x then _ else Jvm.FP.Core.f2d x) = _
    rw [hn]
    rfl
  rw [e1]
  cases hz : Jvm.FP.Core.decode Jvm.FP.Core.b32 x.toNat with
  | nan => exact absurd hz h2
  | inf s =>
    obtain ⟨h1, h2⟩ := fp_e64 (.inf s) s (Or.inl rfl)
    exact hm _ h1 h2
  | fin s c q =>
    obtain ⟨h1, h2⟩ := fp_r64 s c 1 q
    exact hm _ h1 h2
/-- a double answer is compared -/
theorem y_cmpD {G : va_W} {k : Int32} {r : UInt64} {off : Int} {tgt : Nat} {op : CmpOp} (C : zC p s m args meth c cc RL 9 D cy) (hG : k = 0 → vf_n64 r ∧ ∃ f : Nat → UInt64, G[1]? = some (od, .inl (cy 5, 1, .inr (.inr (.inr (.inl f))))) ∧ f 0 = r) (hP : va_P D vwCl G H) (h3 : ls[4]? = some (.val (.ref od))) (h7 : ls[7]? = some (.val (.double r)))
    (d0 : decode cc (P + 13) = .ok (.ifCond .ne 35, 3)) (d1 : decode cc (P + 16) = .ok (.aload 4, 2)) (d2 : decode cc (P + 18) = .ok (.iconst 0, 1)) (d3 : decode cc (P + 19) = .ok (.daload, 1)) (d4 : decode cc (P + 20) = .ok (.dload 7, 2)) (d6 : decode cc (P + 22) = .ok (.dcmp op, 1)) (d7 : decode cc (P + 23) = .ok (.ifCond .eq 25, 3)) (d8 : decode cc (P + 48) = .ok (.goto off, 3)) (ht : ((P + 48 : Nat) : Int) + off = (tgt : Int))
    (kk : W p l e R s m args below meth c H locs cells slots Q (F0 m tgt ls [])) : W p l e R s m args below meth c H locs cells slots Q (F0 m (P + 13) ls [.int k]) := by
  refine lv_if_ne (tgt := P + 48) C.x C.b d0 (by omega) (fun _ => ?_) (fun h => ?_)
  · exact lv_goto C.x C.b d8 ht kk
  · obtain ⟨hn, f, hf, hf0⟩ := hG h
    refine lv_aload C.x C.b d1 h3 ?_
    refine lv_iconst (v := 0) C.x C.b d2 (by decide) ?_
    refine va_dald C.x C.b C.K hP 1 5 (f := f) hf rfl zin01 d3 ?_
    refine lv_dload C.x C.b d4 h7 ?_
    refine lv_dcmp C.x C.b d6 ?_
    rw [show f (Int32.toNatClampNeg 0) = r from hf0, dcm_rf hn]
    refine lv_if_eq (tgt := P + 48) C.x C.b d7 (by omega) (fun _ => ?_) (fun h => absurd rfl h)
    exact lv_goto C.x C.b d8 ht kk
/-- a float answer is compared -/
theorem y_cmpF {G : va_W} {k : Int32} {r : UInt32} {off : Int} {tgt : Nat} {op : CmpOp} (C : zC p s m args meth c cc RL 9 D cy) (hG : k = 0 → vf_n64 (FP.f2d r) ∧ ∃ f : Nat → UInt64, G[1]? = some (od, .inl (cy 5, 1, .inr (.inr (.inr (.inl f))))) ∧ f 0 = FP.f2d r) (hP : va_P D vwCl G H) (h3 : ls[4]? = some (.val (.ref od))) (h7 : ls[7]? = some (.val (.float r)))
    (d0 : decode cc (P + 13) = .ok (.ifCond .ne 36, 3)) (d1 : decode cc (P + 16) = .ok (.aload 4, 2)) (d2 : decode cc (P + 18) = .ok (.iconst 0, 1)) (d3 : decode cc (P + 19) = .ok (.daload, 1)) (d4 : decode cc (P + 20) = .ok (.fload 7, 2)) (d5 : decode cc (P + 22) = .ok (.f2d, 1)) (d6 : decode cc (P + 23) = .ok (.dcmp op, 1)) (d7 : decode cc (P + 24) = .ok (.ifCond .eq 25, 3)) (d8 : decode cc (P + 49) = .ok (.goto off, 3)) (ht : ((P + 49 : Nat) : Int) + off = (tgt : Int))
    (kk : W p l e R s m args below meth c H locs cells slots Q (F0 m tgt ls [])) : W p l e R s m args below meth c H locs cells slots Q (F0 m (P + 13) ls [.int k]) := by
  refine lv_if_ne (tgt := P + 49) C.x C.b d0 (by omega) (fun _ => ?_) (fun h => ?_)
  · exact lv_goto C.x C.b d8 ht kk
  · obtain ⟨hn, f, hf, hf0⟩ := hG h
    refine lv_aload C.x C.b d1 h3 ?_
    refine lv_iconst (v := 0) C.x C.b d2 (by decide) ?_
    refine va_dald C.x C.b C.K hP 1 5 (f := f) hf rfl zin01 d3 ?_
    refine lv_fload C.x C.b d4 h7 ?_
    refine lv_f2d C.x C.b d5 hn ?_
    refine lv_dcmp C.x C.b d6 ?_
    rw [show f (Int32.toNatClampNeg 0) = FP.f2d r from hf0, dcm_rf hn]
    refine lv_if_eq (tgt := P + 49) C.x C.b d7 (by omega) (fun _ => ?_) (fun h => absurd rfl h)
    exact lv_goto C.x C.b d8 ht kk
/-- two answers without throws are compared -/
theorem y_plain {y1 y2 : MethodName} {c1 c2 : ByteArray} {n1 n2 i1 i2 : Nat} {r1 r2 : Option FieldType} {rf1 rl1 mc1 ms1 rf2 rl2 mc2 ms2 : Nat} {G G1 G2 : va_W} {f1 f2 : List Value} {r : Int32} {lv : List (Nat × Value)} {off : Int} {tgt : Nat} (hM1 : ∀ sz, Met l y1 (zws y1 c1 n1 r1) { frames := rf1, cells := mc1, slots := ms1, locals := rl1 } (zPre E D cy [.ref o0] G sz) (zQi D G1 (va_A G sz) r) mc1 ms1 (va_A G sz)) (hM2 : ∀ sz, Met l y2 (zws y2 c2 n2 r2) { frames := rf2, cells := mc2, slots := ms2, locals := rl2 } (zPre E D cy [.ref h0] G1 sz) (zQi D G2 (va_A G1 sz) r) mc2 ms2 (va_A G1 sz)) (hE : zEok E) (C : zC p s m args meth c cc RL 9 D cy) (hs1 : zSiteV RL i1 y1 c1 n1 r1 0) (hs2 : zSiteV RL i2 y2 c2 n2 r2 0) (hy1 : RX8 = y1.cls) (hy2 : RX9 = y2.cls) (hG1 : G[2]? = some (o0, .inr (10, f1))) (hG2 : G1[3]? = some (h0, .inr (11, f2))) (hR1 : rf1 + 1 ≤ R.frames ∧ 8 + (n1 + 11) + rl1 ≤ R.locals) (hR2 : rf2 + 1 ≤ R.frames ∧ 8 + (n2 + 11) + rl2 ≤ R.locals) (hP : va_P D vwCl G H) (hD : va_D A G) (hS : va_S A s.heap H locs) (hA : ∀ q, s.heap.size ≤ q → A q) (hE0 : E A s s.heap) (hl : lv_has ls 9 lv) (hf : cells + mc1 + mc2 ≤ R.cells ∧ slots + ms1 + ms2 ≤ R.slots) (h1 : ls[1]? = some (.val (.ref o0))) (h2 : ls[2]? = some (.val (.ref h0)))
    (d0 : decode cc P = .ok (.aload_n 1, 1)) (d1 : decode cc (P + 1) = .ok (.invokevirtual i1, 3)) (d2 : decode cc (P + 4) = .ok (.aload_n 2, 1)) (d3 : decode cc (P + 5) = .ok (.invokevirtual i2, 3)) (d4 : decode cc (P + 8) = .ok (.if_icmp .eq off, 3)) (ht : ((P + 8 : Nat) : Int) + off = (tgt : Int))
    (kk : ∀ (H1 : Heap) (locs1 : List Loc), va_P D vwCl G2 H1 → va_D A G2 → va_S A s.heap H1 locs1 → W p l e R s m args below meth c H1 locs1 (cells + mc1 + mc2) (slots + ms1 + ms2) Q (F0 m tgt ls [])) : W p l e R s m args below meth c H locs cells slots Q (F0 m P ls []) := by
  refine lv_aload_n C.x C.b d0 rfl h1 ?_
  refine z_callVi (T := Unit) (As := []) (rest := []) () (fun _ => G1) (fun _ => G1) (fun _ => r) hM1 hE C hs1 hR1 hP hD hS hA hE0 (zFr_end [] G G1) 2 (ci := 10) (fs := f1) (q := (RX8, TX8, 11)) hG1 rfl hy1 rfl hl.1 (Nat.zero_le _) rfl d1 (by omega) (fun _ H1 locs1 _ hP hD hS => ?_)
  refine lv_aload_n C.x C.b d2 rfl h2 ?_
  refine z_callVi (T := Unit) (As := []) (rest := [.int r]) () (fun _ => G2) (fun _ => G2) (fun _ => r) hM2 hE C hs2 hR2 hP hD hS hA hE0 (zFr_end [] G1 G2) 3 (ci := 11) (fs := f2) (q := (RX9, TX9, 20)) hG2 rfl hy2 rfl hl.1 (Nat.le_of_ble_eq_true rfl) rfl d3 hf (fun _ H1 locs1 _ hP hD hS => ?_)
  refine lv_icmp_eq (tgt := tgt) C.x C.b d4 ht (fun _ => ?_) (fun h => absurd rfl h)
  exact kk H1 locs1 hP hD hS
end LB
/-- one call of the law: the wrapper's number, the reference's answer, and what they leave -/
def zKI (l : Launch) (E : zEn) (D : zG) (cy : Nat → ClassId) (yw : MethodName) (cw : ByteArray) (nw : Nat) (hw : List (Nat × Nat × Nat × Nat)) (ym : MethodName) (cm : ByteArray) (nm : Nat) (rm : Option FieldType) (val : Int32 → Int64) (ax : List Value) (o0 h0 oo : Nat) (G1 : va_W) (Post : va_W → Prop) : Prop :=
  ∃ (k r : Int32) (G2 G3 : va_W) (f2 f3 : List Value) (rf1 rl1 mc1 ms1 rf2 rl2 mc2 ms2 : Nat), (rf1 ≤ 100 ∧ rl1 ≤ 8000 ∧ rf2 ≤ 100 ∧ rl2 ≤ 8000 ∧ mc1 + mc2 ≤ 1000 ∧ ms1 + ms2 ≤ 14000) ∧ G2[3]? = some (h0, .inr (11, f2)) ∧ G3[3]? = some (h0, .inr (11, f3)) ∧
  (∀ sz, Met l yw (zwsH yw cw nw hw) { frames := rf1, cells := mc1, slots := ms1, locals := rl1 } (zPre E D cy (.ref o0 :: (ax ++ [.ref oo])) G1 sz) (zQi D G2 (va_A G1 sz) k) mc1 ms1 (va_A G1 sz)) ∧
  (∀ sz, Met l ym (zws ym cm nm rm) { frames := rf2, cells := mc2, slots := ms2, locals := rl2 } (zPre E D cy (.ref h0 :: ax) G2 sz) (zQi D G3 (va_A G2 sz) r) mc2 ms2 (va_A G2 sz)) ∧
  (∀ sz, Met l yX9_thrown (zws yX9_thrown cX9_thrown 1 (some .int)) { frames := 0, cells := 0, slots := 0, locals := 0 } (zPre E D cy [.ref h0] G3 sz) (zQi D G3 (va_A G3 sz) k) 0 0 (va_A G3 sz)) ∧
  (k = 0 → ∃ f : Nat → Int64, G3[0]? = some (oo, .inl (cy 4, 1, .inr (.inl f))) ∧ f 0 = val r) ∧ Post G3
def zKD (l : Launch) (E : zEn) (D : zG) (cy : Nat → ClassId) (yw : MethodName) (cw : ByteArray) (nw : Nat) (hw : List (Nat × Nat × Nat × Nat)) (ym : MethodName) (cm : ByteArray) (nm : Nat) (o0 h0 od : Nat) (G1 : va_W) (Post : va_W → Prop) : Prop :=
  ∃ (k : Int32) (r : UInt64) (G2 G3 : va_W) (f2 f3 : List Value) (rf1 rl1 mc1 ms1 rf2 rl2 mc2 ms2 : Nat), (rf1 ≤ 100 ∧ rl1 ≤ 8000 ∧ rf2 ≤ 100 ∧ rl2 ≤ 8000 ∧ mc1 + mc2 ≤ 1000 ∧ ms1 + ms2 ≤ 14000) ∧ G2[3]? = some (h0, .inr (11, f2)) ∧ G3[3]? = some (h0, .inr (11, f3)) ∧
  (∀ sz, Met l yw (zwsH yw cw nw hw) { frames := rf1, cells := mc1, slots := ms1, locals := rl1 } (zPre E D cy [.ref o0, .ref od] G1 sz) (zQi D G2 (va_A G1 sz) k) mc1 ms1 (va_A G1 sz)) ∧
  (∀ sz, Met l ym (zws ym cm nm (some .double)) { frames := rf2, cells := mc2, slots := ms2, locals := rl2 } (zPre E D cy [.ref h0] G2 sz) (zQd D G3 (va_A G2 sz) r) mc2 ms2 (va_A G2 sz)) ∧
  (∀ sz, Met l yX9_thrown (zws yX9_thrown cX9_thrown 1 (some .int)) { frames := 0, cells := 0, slots := 0, locals := 0 } (zPre E D cy [.ref h0] G3 sz) (zQi D G3 (va_A G3 sz) k) 0 0 (va_A G3 sz)) ∧
  (k = 0 → vf_n64 r ∧ ∃ f : Nat → UInt64, G3[1]? = some (od, .inl (cy 5, 1, .inr (.inr (.inr (.inl f))))) ∧ f 0 = r) ∧ Post G3
def zKF (l : Launch) (E : zEn) (D : zG) (cy : Nat → ClassId) (yw : MethodName) (cw : ByteArray) (nw : Nat) (hw : List (Nat × Nat × Nat × Nat)) (ym : MethodName) (cm : ByteArray) (nm : Nat) (o0 h0 od : Nat) (G1 : va_W) (Post : va_W → Prop) : Prop :=
  ∃ (k : Int32) (r : UInt32) (G2 G3 : va_W) (f2 f3 : List Value) (rf1 rl1 mc1 ms1 rf2 rl2 mc2 ms2 : Nat), (rf1 ≤ 100 ∧ rl1 ≤ 8000 ∧ rf2 ≤ 100 ∧ rl2 ≤ 8000 ∧ mc1 + mc2 ≤ 1000 ∧ ms1 + ms2 ≤ 14000) ∧ G2[3]? = some (h0, .inr (11, f2)) ∧ G3[3]? = some (h0, .inr (11, f3)) ∧
  (∀ sz, Met l yw (zwsH yw cw nw hw) { frames := rf1, cells := mc1, slots := ms1, locals := rl1 } (zPre E D cy [.ref o0, .ref od] G1 sz) (zQi D G2 (va_A G1 sz) k) mc1 ms1 (va_A G1 sz)) ∧
  (∀ sz, Met l ym (zws ym cm nm (some .float)) { frames := rf2, cells := mc2, slots := ms2, locals := rl2 } (zPre E D cy [.ref h0] G2 sz) (zQf D G3 (va_A G2 sz) r) mc2 ms2 (va_A G2 sz)) ∧
  (∀ sz, Met l yX9_thrown (zws yX9_thrown cX9_thrown 1 (some .int)) { frames := 0, cells := 0, slots := 0, locals := 0 } (zPre E D cy [.ref h0] G3 sz) (zQi D G3 (va_A G3 sz) k) 0 0 (va_A G3 sz)) ∧
  (k = 0 → vf_n64 (FP.f2d r) ∧ ∃ f : Nat → UInt64, G3[1]? = some (od, .inl (cy 5, 1, .inr (.inr (.inr (.inl f))))) ∧ f 0 = FP.f2d r) ∧ Post G3
/-- two calls that never throw -/
def zKP (l : Launch) (E : zEn) (D : zG) (cy : Nat → ClassId) (y1 : MethodName) (c1 : ByteArray) (n1 : Nat) (r1 : Option FieldType) (y2 : MethodName) (c2 : ByteArray) (n2 : Nat) (r2 : Option FieldType) (o0 h0 : Nat) (G : va_W) (Post : va_W → Prop) : Prop :=
  ∃ (r : Int32) (G1 G2 : va_W) (f1 f2 : List Value) (rf1 rl1 mc1 ms1 rf2 rl2 mc2 ms2 : Nat), (rf1 ≤ 100 ∧ rl1 ≤ 8000 ∧ rf2 ≤ 100 ∧ rl2 ≤ 8000 ∧ mc1 + mc2 ≤ 1000 ∧ ms1 + ms2 ≤ 14000) ∧ G[2]? = some (o0, .inr (10, f1)) ∧ G1[3]? = some (h0, .inr (11, f2)) ∧
  (∀ sz, Met l y1 (zws y1 c1 n1 r1) { frames := rf1, cells := mc1, slots := ms1, locals := rl1 } (zPre E D cy [.ref o0] G sz) (zQi D G1 (va_A G sz) r) mc1 ms1 (va_A G sz)) ∧
  (∀ sz, Met l y2 (zws y2 c2 n2 r2) { frames := rf2, cells := mc2, slots := ms2, locals := rl2 } (zPre E D cy [.ref h0] G1 sz) (zQi D G2 (va_A G1 sz) r) mc2 ms2 (va_A G1 sz)) ∧ Post G2
