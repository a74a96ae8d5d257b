/-! contracts whose world behind is known but for the insides of a StringBuilder -/
section LFR
variable {l : Launch} {y : MethodName} {ws : List Cond} {rm : Room} {E : zEn} {D : zG} {cy : Nat → ClassId} {av : List Value} {F W G : va_W} {sz mc ms : Nat} {W' G' : zSBt → va_W} {Rl : zSBt → Prop}
theorem l_ir {r : Int32} (hE : zEok E) (h : Met l y ws rm (zPre E D cy av W sz) (zQir D Rl W' (fun _ => r) (va_A W sz)) mc ms (va_A W sz)) (hG : G.Perm (F ++ W)) (hG' : ∀ x, (G' x).Perm (F ++ W' x)) : Met l y ws rm (zPre E D cy av G sz) (zQir D Rl G' (fun _ => r) (va_A G sz)) mc ms (va_A G sz) := by
  refine MetFree.mono h (fun a s h => l_pre hE hG a s h) (fun _ _ _ _ _ h => h) (fun a s o t hp hq => ?_)
  obtain ⟨⟨⟨r1, u, h1, h2, hP, hD⟩, hF⟩, L, hL, hf⟩ := hq
  obtain ⟨k1, k2⟩ := l_post hG (hG' u) hp hP hD hF
  exact ⟨⟨⟨r1, u, h1, h2, k1⟩, k2⟩, L, hL, fun q hq => l_sub hG _ (hf q hq)⟩
theorem L_ir {f : Nat → va_W} {f' : zSBt → Nat → va_W} {R ins : List Nat} {W0 : va_W} {W1 : zSBt → va_W} {r : Int32} (hE : zEok E) (h : ∀ sz, Met l y ws rm (zPre E D cy av W0 sz) (zQir D Rl W1 (fun _ => r) (va_A W0 sz)) mc ms (va_A W0 sz)) (hR : R.Nodup) (hi : ins.Nodup) (hs : ∀ k ∈ ins, k ∈ R) (h0 : zWl f ins = W0) (h1 : ∀ x, zWl (f' x) ins = W1 x) (hf : ∀ x, ∀ k ∈ R, k ∉ ins → f' x k = f k) (sz : Nat) : Met l y ws rm (zPre E D cy av (zWl f R) sz) (zQir D Rl (fun x => zWl (f' x) R) (fun _ => r) (va_A (zWl f R) sz)) mc ms (va_A (zWl f R) sz) := by
  subst h0
  have h2 := h sz
  rw [show W1 = fun x => zWl (f' x) ins from funext fun x => (h1 x).symm] at h2
  exact l_ir hE h2 (l_wl f (f' (Classical.choice ⟨(0, 0, fun _ => 0, 0)⟩)) hR hi hs (hf _)).1 (fun x => (l_wl f (f' x) hR hi hs (hf x)).2)
end LFR

section ZREL
variable {p : Program} {l : Launch} {e : Env} {R : Room} {s : State} {m : MethodId} {args : Array Value} {below : List Frame} {meth : Method} {c : Code} {H : Heap} {locs : List Loc} {cells slots : Nat} {Q : State → Prop}
variable {cc : ByteArray} {own : String} {nL : Nat} {D : zG} {cy : Nat → ClassId} {E : zEn} {A : Nat → Prop} {wv : va_W} {pc : Nat} {ls : Array Slot} {rest st0 : List Value}
theorem z_goirD {T : Type} (o0 : T) {Rl : T → Prop} {wc' w' : T → va_W} {r0 : T → Int32} {wc : va_W} {isC isR : List Nat} {isO : T → List Nat} {a0 : Array Value} {mc ms : Nat} (hr : va_Run p l e R s m args below meth c H locs cells slots mc ms (F0 m pc ls st0) rest (zQir D Rl wc' r0 (va_A wc H.size) a0) (va_A wc H.size)) (hP : va_P D vwCl wv H) (hD : va_D A wv) (hS : va_S A s.heap H locs) (hA : ∀ q, s.heap.size ≤ q → A q) (hF : ∀ o, zFr wv wc (wc' o) (w' o) isC isR (isO o))
    (kk : ∀ (o : T) (H1 : Heap) (locs1 : List Loc), Rl o → va_P D vwCl (w' o) H1 → va_D A (w' o) → va_S A s.heap H1 locs1 → W p l e R s m args below meth c H1 locs1 (cells + mc) (slots + ms) Q (F0 m (pc + 3) ls (.int (r0 o) :: rest))) : W p l e R s m args below meth c H locs cells slots Q (F0 m pc ls st0) := by
  obtain ⟨g1, _, _, _, _, _, _⟩ := hF o0
  have hFc := va_free hD hS hA isC g1
  refine va_calli hr hS (fun q _ h => hFc q h) hFc (fun r a t H1 locs1 ht hvm hw hB hz1 hk1 hS1 => ?_)
  obtain ⟨f1, f2, f3, f4, f5, f6, f7⟩ := hF a
  obtain ⟨hP1, hD1⟩ := hB
  rw [ht] at hP1
  obtain ⟨hP2, hD2⟩ := va_join hP hD isC isR f1 (zrest isR f2) f3 f4 hk1 hFc hP1 hD1
  rw [show r = r0 a from hw.2]
  exact kk a H1 locs1 hw.1 (zsub hP2 (isO a) f5) (hD2.sub (isO a) f6 f5) hS1
end ZREL

section WC
variable {p : Program} {l : Launch} {e : Env} {R : Room} {s : State} {m : MethodId} {args : Array Value} {below : List Frame} {meth : Method} {c : Code} {H : Heap} {locs : List Loc} {cells slots : Nat} {Q : State → Prop}
variable {cc : ByteArray} {nL : Nat} {D : zG} {cy : Nat → ClassId} {E : zEn} {A : Nat → Prop} {q : Nat} {ls : Array Slot} {wv : va_W} {rest st0 : List Value} {pc : Nat} {own : String}
variable {yC : MethodName} {cb : ByteArray} {nb n idx rf rl mc ms : Nat} {ret : Option FieldType} {As : List Value} {Wc : va_W} {Wc' : zSBt → va_W} {Rl : zSBt → Prop} {o0 oo od : Nat} {fs : List Value} {f : Nat → Int64} {g : Nat → UInt64}
theorem w_intr {off : Int} {tgt : Nat} {r : Int32} (C : zC p s m args meth c cc RL nL D cy) (hr : meth.sig.returnType = some .int) (hE : zEok E) (hE0 : E A s s.heap) (hA : ∀ q, s.heap.size ≤ q → A q)
    (hM : ∀ sz, Met l yC (zws yC cb nb ret) { frames := rf, cells := mc, slots := ms, locals := rl } (zPre E D cy (.ref o0 :: As) Wc sz) (zQir D Rl Wc' (fun _ => r) (va_A Wc sz)) mc ms (va_A Wc sz)) (hs : zSiteV RL idx yC cb nb ret n) (hy : RX8 = yC.cls) (hW : Wc[1]? = some (o0, .inr (10, fs))) (hn : As.length = n) (hlen : ls.size = nL) (hR : rf + 1 ≤ R.frames ∧ 8 + (nb + 11) + rl ≤ R.locals) (hf : mc ≤ R.cells ∧ ms ≤ R.slots)
    (hP : va_P D vwCl (zOl cy oo f ++ Wc) H) (hD : va_D A (zOl cy oo f ++ Wc)) (hS : va_S A s.heap H locs)
    (d0 : decode cc q = .ok (.invokevirtual idx, 3)) (d1 : decode cc (q + 3) = .ok (.i2l, 1)) (d2 : decode cc (q + 4) = .ok (.lastore, 1)) (d3 : decode cc (q + 5) = .ok (.goto off, 3)) (ht : ((q + 5 : Nat) : Int) + off = (tgt : Int)) (d4 : decode cc tgt = .ok (.iconst 0, 1)) (d5 : decode cc (tgt + 1) = .ok (.ireturn, 1)) :
    W p l e R s m args below meth c H locs 0 0 (MQ below (zQir D Rl (fun x => zOl cy oo (vp_updL f 0 r.toInt64) ++ Wc' x) (fun _ => 0) A) args s mc ms A) (F0 m q ls (As.reverse ++ [.ref o0, .int 0, .ref oo])) := by
  obtain ⟨_, _, _, _, _, f6, f7⟩ := zFr_end (zOl cy oo f) Wc Wc
  refine z_goirD (T := zSBt) (isO := fun x => List.range (zOl cy oo f ++ Wc' x).length) (rest := [.int 0, .ref oo]) (0, 0, fun _ => 0, 0) (Rl := Rl) (wc' := Wc') (w' := fun x => zOl cy oo f ++ Wc' x) (r0 := fun _ => r) (wc := Wc) (z_runV (As := As) (Qc := fun A => zQir D Rl Wc' (fun _ => r) A) hM hE C hs hR hP hD hS hA hE0 (zFr_end (zOl cy oo f) Wc Wc).1 f7 2 (ci := 10) (fs := fs) (q := (RX8, TX8, 11)) hW rfl hy hn hlen (Nat.le_of_ble_eq_true rfl) rfl d0 (by omega)) hP hD hS hA (fun x => zFr_end (zOl cy oo f) Wc (Wc' x)) (fun x H1 locs1 hx hP hD hS => ?_)
  refine lv_i2l C.x C.b d1 rfl ?_
  refine va_last C.x C.b C.K hP hD hS 0 4 (f := f) rfl rfl zin01 d2 (fun H2 locs2 hP hD hS => ?_)
  refine lv_goto C.x C.b d3 ht ?_
  refine lv_iconst (v := 0) C.x C.b d4 (by decide) ?_
  exact z_iretr x hx C hr hP hD hS (by omega) (by omega) rfl rfl d5
end WC

set_option maxRecDepth 100000 in
theorem k_renderBallr (l : Launch) {E : zEn} (hE : zEok E) (D : zG) (cy : Nat → ClassId) (o0 oo : Nat) (f : Nat → Int64) {Wc : va_W} {Wc' : zSBt → va_W} {Rl : zSBt → Prop} {fs : List Value} (hW : Wc[1]? = some (o0, .inr (10, fs))) {rf rl mc ms : Nat} {r : Int32} (hM : ∀ sz, Met l yX8_renderBall (zws yX8_renderBall cX8_renderBall 1 (some .int)) { frames := rf, cells := mc, slots := ms, locals := rl } (zPre E D cy [.ref o0] Wc sz) (zQir D Rl Wc' (fun _ => r) (va_A Wc sz)) mc ms (va_A Wc sz)) (sz : Nat) : Met l yL_renderBall (zwsH yL_renderBall cL_renderBall 3 [(0, 8, 11, 13)]) { frames := rf + 1, cells := mc, slots := ms, locals := 8 + (1 + 11) + rl } (zPre E D cy [.ref o0, .ref oo] (zOl cy oo f ++ Wc) sz) (zQir D Rl (fun x => zOl cy oo (vp_updL f 0 r.toInt64) ++ Wc' x) (fun _ => 0) (va_A (zOl cy oo f ++ Wc) sz)) mc ms (va_A (zOl cy oo f ++ Wc) sz) := by
  refine z_ofH (Qc := fun A => zQir D Rl (fun x => zOl cy oo (vp_updL f 0 r.toInt64) ++ Wc' x) (fun _ => 0) A) (nL := 3) (r := some .int) (by decide +kernel) (Nat.le_of_ble_eq_true rfl) (lv := [(0, .ref o0), (1, .ref oo)]) rfl ?_
  intro p e s m below meth c A ls C hr hT hA hP hD hS hE0 hl
  refine lv_aload_n C.x C.b dL_renderBall_0 rfl (lv_at hl 1 rfl) ?_
  refine lv_iconst (v := 0) C.x C.b dL_renderBall_1 (by decide) ?_
  refine lv_aload_n C.x C.b dL_renderBall_2 rfl (lv_at hl 0 rfl) ?_
  exact w_intr (R := { frames := rf + 1, cells := mc, slots := ms, locals := 8 + (1 + 11) + rl }) (As := []) (q := 3) (tgt := 14) (fs := fs) C hr hE hE0 hA hM zs_L_135 rfl hW rfl hl.1 ⟨Nat.le_refl _, Nat.le_refl _⟩ ⟨Nat.le_refl _, Nat.le_refl _⟩ hP hD hS dL_renderBall_3 dL_renderBall_6 dL_renderBall_7 dL_renderBall_8 (by decide) dL_renderBall_14 dL_renderBall_15

section LB
variable {p : Program} {l : Launch} {e : Env} {R : Room} {s : State} {m : MethodId} {args : Array Value} {below : List Frame} {meth : Method} {c : Code} {H : Heap} {locs : List Loc} {cells slots : Nat} {Q : State → Prop}
variable {D : zG} {cy : Nat → ClassId} {E : zEn} {A : Nat → Prop} {P : Nat} {ls : Array Slot} {rest st0 : List Value} {cc : ByteArray}
variable {b n L o0 h0 oo od : Nat} {xs : Nat → Int32}
theorem y_wrapr {y : MethodName} {cb : ByteArray} {nb k idx : Nat} {hh : List (Nat × Nat × Nat × Nat)} {rf rl mc ms : Nat} {As : List Value} {G : va_W} {G' : zSBt → va_W} {Rl : zSBt → Prop} {r : Int32} {lv lv' : List (Nat × Value)} (hM : ∀ sz, Met l y (zwsH y cb nb hh) { frames := rf, cells := mc, slots := ms, locals := rl } (zPre E D cy As G sz) (zQir D Rl G' (fun _ => r) (va_A G sz)) mc ms (va_A G sz)) (hE : zEok E) (C : zC p s m args meth c cc RL 9 D cy) (hs : zSiteW idx y cb nb hh k) (hR : rf + 1 ≤ R.frames ∧ 8 + (nb + 11) + rl ≤ R.locals) (hP : va_P D vwCl G H) (hD : va_D A G) (hS : va_S A s.heap H locs) (hA : ∀ q, s.heap.size ≤ q → A q) (hE0 : E A s s.heap) (hn : As.length = k) (hl : lv_has ls 9 lv) (hst : st0 = As.reverse ++ []) (hf : cells + mc ≤ R.cells ∧ slots + ms ≤ R.slots)
    (d0 : decode cc P = .ok (.invokestatic idx, 3)) (d1 : decode cc (P + 3) = .ok (.istore 6, 2)) (hlv : (6, Value.int r) :: lv.filter (fun q => !(q.1 == 6) && !(q.1 + 1 == 6 && q.2.category == 2)) = lv')
    (kk : ∀ (x : zSBt) (H1 : Heap) (locs1 : List Loc) (ls : Array Slot), Rl x → va_P D vwCl (G' x) H1 → va_D A (G' x) → va_S A s.heap H1 locs1 → lv_has ls 9 lv' → W p l e R s m args below meth c H1 locs1 (cells + mc) (slots + ms) Q (F0 m (P + 5) ls [])) : W p l e R s m args below meth c H locs cells slots Q (F0 m P ls st0) := by
  obtain ⟨h1, h2⟩ := zcallee (av := As) hE C hP hD hS hA hE0 (zFr_end [] G (G' (0, 0, fun _ => 0, 0)))
  refine z_goirD (T := zSBt) (isC := List.range' ([] : va_W).length G.length) (isR := List.range ([] : va_W).length) (isO := fun x => List.range (([] : va_W) ++ G' x).length) (0, 0, fun _ => 0, 0) (Rl := Rl) (wc' := G') (w' := G') (r0 := fun _ => r) (vx_runSW (As := As) (rest := []) C.fix (hM H.size) (vx_cwSW k C.ts hs.1 rfl rfl rfl hs.2 hR) ⟨h1, h2⟩ rfl hn hl.1 hst (lv_room (Nat.zero_le _)) d0 hf) hP hD hS hA (fun x => zFr_end [] G (G' x)) (fun x H1 locs1 hx hP hD hS => ?_)
  exact lv_istore C.x C.b d1 hl (by decide) hlv (fun ls hl => kk x H1 locs1 ls hx hP hD hS hl)

theorem y_plainr {y1 y2 : MethodName} {c1 c2 : ByteArray} {n1 n2 i1 i2 : Nat} {r1 r2 : Option FieldType} {rf1 rl1 mc1 ms1 rf2 rl2 mc2 ms2 : Nat} {G : va_W} {G1 G2 : zSBt → va_W} {Rl : zSBt → Prop} {f1 f2 : List Value} {r : Int32} {lv : List (Nat × Value)} {off : Int} {tgt : Nat} (hM1 : ∀ sz, Met l y1 (zws y1 c1 n1 r1) { frames := rf1, cells := mc1, slots := ms1, locals := rl1 } (zPre E D cy [.ref o0] G sz) (zQir D Rl G1 (fun _ => r) (va_A G sz)) mc1 ms1 (va_A G sz)) (hM2 : ∀ x, Rl x → ∀ sz, Met l y2 (zws y2 c2 n2 r2) { frames := rf2, cells := mc2, slots := ms2, locals := rl2 } (zPre E D cy [.ref h0] (G1 x) sz) (zQi D (G2 x) (va_A (G1 x) sz) r) mc2 ms2 (va_A (G1 x) sz)) (hE : zEok E) (C : zC p s m args meth c cc RL 9 D cy) (hs1 : zSiteV RL i1 y1 c1 n1 r1 0) (hs2 : zSiteV RL i2 y2 c2 n2 r2 0) (hy1 : RX8 = y1.cls) (hy2 : RX9 = y2.cls) (hG1 : G[2]? = some (o0, .inr (10, f1))) (hG2 : ∀ x, (G1 x)[3]? = some (h0, .inr (11, f2))) (hR1 : rf1 + 1 ≤ R.frames ∧ 8 + (n1 + 11) + rl1 ≤ R.locals) (hR2 : rf2 + 1 ≤ R.frames ∧ 8 + (n2 + 11) + rl2 ≤ R.locals) (hP : va_P D vwCl G H) (hD : va_D A G) (hS : va_S A s.heap H locs) (hA : ∀ q, s.heap.size ≤ q → A q) (hE0 : E A s s.heap) (hl : lv_has ls 9 lv) (hf : cells + mc1 + mc2 ≤ R.cells ∧ slots + ms1 + ms2 ≤ R.slots) (h1 : ls[1]? = some (.val (.ref o0))) (h2 : ls[2]? = some (.val (.ref h0)))
    (d0 : decode cc P = .ok (.aload_n 1, 1)) (d1 : decode cc (P + 1) = .ok (.invokevirtual i1, 3)) (d2 : decode cc (P + 4) = .ok (.aload_n 2, 1)) (d3 : decode cc (P + 5) = .ok (.invokevirtual i2, 3)) (d4 : decode cc (P + 8) = .ok (.if_icmp .eq off, 3)) (ht : ((P + 8 : Nat) : Int) + off = (tgt : Int))
    (kk : ∀ (x : zSBt) (H1 : Heap) (locs1 : List Loc), Rl x → va_P D vwCl (G2 x) H1 → va_D A (G2 x) → va_S A s.heap H1 locs1 → W p l e R s m args below meth c H1 locs1 (cells + mc1 + mc2) (slots + ms1 + ms2) Q (F0 m tgt ls [])) : W p l e R s m args below meth c H locs cells slots Q (F0 m P ls []) := by
  refine lv_aload_n C.x C.b d0 rfl h1 ?_
  obtain ⟨_, _, _, _, _, f6, f7⟩ := zFr_end [] G G
  refine z_goirD (T := zSBt) (isC := List.range' ([] : va_W).length G.length) (isR := List.range ([] : va_W).length) (isO := fun x => List.range (([] : va_W) ++ G1 x).length) (rest := []) (0, 0, fun _ => 0, 0) (Rl := Rl) (wc' := G1) (w' := G1) (r0 := fun _ => r) (wc := G) (z_runV (As := []) (Qc := fun A => zQir D Rl G1 (fun _ => r) A) hM1 hE C hs1 hR1 hP hD hS hA hE0 (zFr_end [] G G).1 f7 2 (ci := 10) (fs := f1) (q := (RX8, TX8, 11)) hG1 rfl hy1 rfl hl.1 (Nat.zero_le _) rfl d1 (by omega)) hP hD hS hA (fun x => zFr_end [] G (G1 x)) (fun x H1 locs1 hx hP hD hS => ?_)
  refine lv_aload_n C.x C.b d2 rfl h2 ?_
  refine z_callVi (T := Unit) (As := []) (rest := [.int r]) () (fun _ => G2 x) (fun _ => G2 x) (fun _ => r) (hM2 x hx) hE C hs2 hR2 hP hD hS hA hE0 (zFr_end [] (G1 x) (G2 x)) 3 (ci := 11) (fs := f2) (q := (RX9, TX9, 20)) (hG2 x) rfl hy2 rfl hl.1 (Nat.le_of_ble_eq_true rfl) rfl d3 hf (fun _ H1 locs1 _ hP hD hS => ?_)
  refine lv_icmp_eq (tgt := tgt) C.x C.b d4 ht (fun _ => ?_) (fun h => absurd rfl h)
  exact kk x H1 locs1 hx hP hD hS
end LB

def zKIr (l : Launch) (E : zEn) (D : zG) (cy : Nat → ClassId) (yw : MethodName) (cw : ByteArray) (nw : Nat) (hw : List (Nat × Nat × Nat × Nat)) (ym : MethodName) (cm : ByteArray) (nm : Nat) (rm : Option FieldType) (val : Int32 → Int64) (ax : List Value) (o0 h0 oo : Nat) (G1 : va_W) (Post : va_W → Prop) : Prop :=
  ∃ (Rl : zSBt → Prop) (k r : Int32) (G2 G3 : zSBt → va_W) (f2 f3 : List Value) (rf1 rl1 mc1 ms1 rf2 rl2 mc2 ms2 : Nat), (rf1 ≤ 100 ∧ rl1 ≤ 8000 ∧ rf2 ≤ 100 ∧ rl2 ≤ 8000 ∧ mc1 + mc2 ≤ 1000 ∧ ms1 + ms2 ≤ 14000) ∧ (∀ x, (G2 x)[3]? = some (h0, .inr (11, f2))) ∧ (∀ x, (G3 x)[3]? = some (h0, .inr (11, f3))) ∧
  (∀ sz, Met l yw (zwsH yw cw nw hw) { frames := rf1, cells := mc1, slots := ms1, locals := rl1 } (zPre E D cy (.ref o0 :: (ax ++ [.ref oo])) G1 sz) (zQir D Rl G2 (fun _ => k) (va_A G1 sz)) mc1 ms1 (va_A G1 sz)) ∧
  (∀ x, Rl x → ∀ sz, Met l ym (zws ym cm nm rm) { frames := rf2, cells := mc2, slots := ms2, locals := rl2 } (zPre E D cy (.ref h0 :: ax) (G2 x) sz) (zQi D (G3 x) (va_A (G2 x) sz) r) mc2 ms2 (va_A (G2 x) sz)) ∧
  (∀ x sz, Met l yX9_thrown (zws yX9_thrown cX9_thrown 1 (some .int)) { frames := 0, cells := 0, slots := 0, locals := 0 } (zPre E D cy [.ref h0] (G3 x) sz) (zQi D (G3 x) (va_A (G3 x) sz) k) 0 0 (va_A (G3 x) sz)) ∧
  (∀ x, k = 0 → ∃ f : Nat → Int64, (G3 x)[0]? = some (oo, .inl (cy 4, 1, .inr (.inl f))) ∧ f 0 = val r) ∧ ∀ x, Rl x → Post (G3 x)
def zKPr (l : Launch) (E : zEn) (D : zG) (cy : Nat → ClassId) (y1 : MethodName) (c1 : ByteArray) (n1 : Nat) (r1 : Option FieldType) (y2 : MethodName) (c2 : ByteArray) (n2 : Nat) (r2 : Option FieldType) (o0 h0 : Nat) (G : va_W) (Post : va_W → Prop) : Prop :=
  ∃ (Rl : zSBt → Prop) (r : Int32) (G1 G2 : zSBt → va_W) (f1 f2 : List Value) (rf1 rl1 mc1 ms1 rf2 rl2 mc2 ms2 : Nat), (rf1 ≤ 100 ∧ rl1 ≤ 8000 ∧ rf2 ≤ 100 ∧ rl2 ≤ 8000 ∧ mc1 + mc2 ≤ 1000 ∧ ms1 + ms2 ≤ 14000) ∧ G[2]? = some (o0, .inr (10, f1)) ∧ (∀ x, (G1 x)[3]? = some (h0, .inr (11, f2))) ∧
  (∀ sz, Met l y1 (zws y1 c1 n1 r1) { frames := rf1, cells := mc1, slots := ms1, locals := rl1 } (zPre E D cy [.ref o0] G sz) (zQir D Rl G1 (fun _ => r) (va_A G sz)) mc1 ms1 (va_A G sz)) ∧
  (∀ x, Rl x → ∀ sz, Met l y2 (zws y2 c2 n2 r2) { frames := rf2, cells := mc2, slots := ms2, locals := rl2 } (zPre E D cy [.ref h0] (G1 x) sz) (zQi D (G2 x) (va_A (G1 x) sz) r) mc2 ms2 (va_A (G1 x) sz)) ∧ ∀ x, Rl x → Post (G2 x)

section LQ
variable {p : Program} {l : Launch} {e : Env} {R : Room} {s : State} {m : MethodId} {args : Array Value} {below : List Frame} {meth : Method} {c : Code} {H : Heap} {locs : List Loc} {cells slots : Nat} {Q : State → Prop}
variable {D : zG} {cy : Nat → ClassId} {E : zEn} {A : Nat → Prop} {ls : Array Slot}
variable {b n L o0 h0 oo od : Nat} {xs : Nat → Int32} {G : va_W} {Post : va_W → Prop}
set_option maxRecDepth 100000 in
theorem j_renderBallr (hk : zKIr l E D cy yL_renderBall cL_renderBall 3 [(0, 8, 11, 13)] yX9_renderBall cX9_renderBall 2 (some .int) Int32.toInt64 [] o0 h0 oo G Post) (hE : zEok E) (C : zC p s m args meth c cL_law RL 9 D cy) (hE0 : E A s s.heap) (hA : ∀ q, s.heap.size ≤ q → A q) (hX : va_X b L xs s s.heap) (hbl : b < s.heap.size) (hbA : ¬ A b) (hn : n + 2 < L) (hL : L < 2 ^ 31) (hR : 200 ≤ R.frames ∧ 20000 ≤ R.locals) (hf : cells + 1000 ≤ R.cells ∧ slots + 14000 ≤ R.slots) (hP : va_P D vwCl G H) (hD : va_D A G) (hS : va_S A s.heap H locs) (hl : lv_has ls 9 [(5, .int (nI n)), (0, .ref b), (1, .ref o0), (2, .ref h0), (3, .ref oo), (4, .ref od)]) (kk : ∀ (G3 : va_W) (H1 : Heap) (locs1 : List Loc) (ls1 : Array Slot), Post G3 → va_P D vwCl G3 H1 → va_D A G3 → va_S A s.heap H1 locs1 → lv_has ls1 9 [(5, .int (nI n)), (0, .ref b), (1, .ref o0), (2, .ref h0), (3, .ref oo), (4, .ref od)] → W p l e R s m args below meth c H1 locs1 (cells + 1000) (slots + 14000) Q (F0 m 2657 ls1 [])) : W p l e R s m args below meth c H locs cells slots Q (F0 m 2253 ls []) := by
  obtain ⟨Rl, k, r, G2, G3, f2, f3, rf1, rl1, mc1, ms1, rf2, rl2, mc2, ms2, hb, hg2, hg3, h1, h2, h3, ho, hp⟩ := hk
  refine lv_aload_n C.x C.b dL_law_2253 rfl (lv_at hl 2 rfl) ?_
  refine lv_aload_n C.x C.b dL_law_2254 rfl (lv_at hl 4 rfl) ?_
  refine y_wrapr (As := [.ref o0, .ref oo]) h1 hE C zsw_renderBall ⟨by omega, by omega⟩ hP hD hS hA hE0 rfl hl rfl ⟨by omega, by omega⟩ dL_law_2255 dL_law_2258 rfl (fun x H1 locs1 ls hx hP hD hS hl => ?_)
  refine lv_aload_n C.x C.b dL_law_2260 rfl (lv_at hl 4 rfl) ?_
  refine y_mod (As := []) (fs := f2) (h2 x hx) hE C zs_L_316 rfl (hg2 x) ⟨by omega, by omega⟩ hP hD hS hA hE0 rfl hl rfl ⟨by omega, by omega⟩ dL_law_2261 dL_law_2264 rfl (fun H1 locs1 ls hP hD hS hl => ?_)
  refine y_thrown (fs := f3) (h3 x) hE C zs_L_170 (hg3 x) ⟨by omega, by omega⟩ hP hD hS hA hE0 hl ⟨by omega, by omega⟩ (lv_at hl 5 rfl) (lv_at hl 1 rfl) dL_law_2266 dL_law_2267 dL_law_2270 dL_law_2272 dL_law_2277 (fun H1 locs1 hP hD hS => ?_)
  refine y_cmpI (tgt := 2657) (P := 2266) C (ho x) hP (lv_at hl 6 rfl) (lv_at hl 0 rfl) dL_law_2279 dL_law_2282 dL_law_2283 dL_law_2284 dL_law_2285 dL_law_2287 dL_law_2288 dL_law_2289 dL_law_2294 (by decide) ?_
  exact W.widen (by omega) (by omega) (kk (G3 x) H1 locs1 ls (hp x hx) hP hD hS (lv_sub hl [2, 3, 4, 5, 6, 7] rfl))

set_option maxRecDepth 100000 in
theorem j_renderRecordsr (hk : zKPr l E D cy yX8_renderRecords cX8_renderRecords 1 (some .int) yX9_renderRecords cX9_renderRecords 2 (some .int) o0 h0 G Post) (hE : zEok E) (C : zC p s m args meth c cL_law RL 9 D cy) (hE0 : E A s s.heap) (hA : ∀ q, s.heap.size ≤ q → A q) (hX : va_X b L xs s s.heap) (hbl : b < s.heap.size) (hbA : ¬ A b) (hn : n + 2 < L) (hL : L < 2 ^ 31) (hR : 200 ≤ R.frames ∧ 20000 ≤ R.locals) (hf : cells + 1000 ≤ R.cells ∧ slots + 14000 ≤ R.slots) (hP : va_P D vwCl G H) (hD : va_D A G) (hS : va_S A s.heap H locs) (hl : lv_has ls 9 [(5, .int (nI n)), (0, .ref b), (1, .ref o0), (2, .ref h0), (3, .ref oo), (4, .ref od)]) (kk : ∀ (G3 : va_W) (H1 : Heap) (locs1 : List Loc) (ls1 : Array Slot), Post G3 → va_P D vwCl G3 H1 → va_D A G3 → va_S A s.heap H1 locs1 → lv_has ls1 9 [(5, .int (nI n)), (0, .ref b), (1, .ref o0), (2, .ref h0), (3, .ref oo), (4, .ref od)] → W p l e R s m args below meth c H1 locs1 (cells + 1000) (slots + 14000) Q (F0 m 2657 ls1 [])) : W p l e R s m args below meth c H locs cells slots Q (F0 m 2297 ls []) := by
  obtain ⟨Rl, r, G1, G2, f1, f2, rf1, rl1, mc1, ms1, rf2, rl2, mc2, ms2, hb, hg1, hg2, h1, h2, hp⟩ := hk
  refine y_plainr (tgt := 2657) (f1 := f1) (f2 := f2) h1 h2 hE C zs_L_317 zs_L_320 rfl rfl hg1 hg2 ⟨by omega, by omega⟩ ⟨by omega, by omega⟩ hP hD hS hA hE0 hl ⟨by omega, by omega⟩ (lv_at hl 2 rfl) (lv_at hl 3 rfl) dL_law_2297 dL_law_2298 dL_law_2301 dL_law_2302 dL_law_2305 (by decide) (fun x H1 locs1 hx hP hD hS => ?_)
  exact W.widen (by omega) (by omega) (kk (G2 x) H1 locs1 ls (hp x hx) hP hD hS hl)
end LQ
