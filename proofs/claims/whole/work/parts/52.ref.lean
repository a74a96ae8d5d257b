def zQq (D : zG) (W' : va_W) (A : Nat → Prop) (R : Option Nat) : Array Value → State → Outcome → State → Prop :=
  va_Qq (fun (r : Option Nat) (_ : Unit) => r = R) (fun _ t => va_P D vwCl W' t.heap ∧ va_D A W') A
section ZQ
variable {p : Program} {l : Launch} {e : Env} {R : Room} {s : State} {m : MethodId} {args : Array Value} {below : List Frame} {meth : Method} {c : Code} {H : Heap} {locs : List Loc} {cells slots : Nat} {Q : State → Prop}
variable {cc : ByteArray} {own : String} {nL : Nat} {D : zG} {cy : Nat → ClassId} {E : zEn} {A : Nat → Prop} {wv : va_W} {pc : Nat} {ls : Array Slot} {rest st0 : List Value}
theorem z_goq {T : Type} {val : T} {wc' w' : T → va_W} {r0 : T → Option Nat} {wc : va_W} {isC isR isO : List Nat} {a0 : Array Value} {mc ms : Nat} (hr : va_Run p l e R s m args below meth c H locs cells slots mc ms (F0 m pc ls st0) rest (zQq D (wc' val) (va_A wc H.size) (r0 val) a0) (va_A wc H.size)) (hP : va_P D vwCl wv H) (hD : va_D A wv) (hS : va_S A s.heap H locs) (hA : ∀ q, s.heap.size ≤ q → A q) (hF : zFr wv wc (wc' val) (w' val) isC isR isO)
    (kk : ∀ (o : T) (H1 : Heap) (locs1 : List Loc), o = val → va_P D vwCl (w' o) H1 → va_D A (w' o) → va_S A s.heap H1 locs1 → W p l e R s m args below meth c H1 locs1 (cells + mc) (slots + ms) Q (F0 m (pc + 3) ls (va_rf (r0 o) :: rest))) : W p l e R s m args below meth c H locs cells slots Q (F0 m pc ls st0) := by
  obtain ⟨f1, f2, f3, f4, f5, f6, f7⟩ := hF
  have hFc := va_free hD hS hA isC f1
  refine va_callq hr hS (fun q _ h => hFc q h) hFc (fun r u t H1 locs1 ht hvm hw hB hz1 hk1 hS1 => ?_)
  obtain ⟨hP1, hD1⟩ := hB
  rw [ht] at hP1
  obtain ⟨hP2, hD2⟩ := va_join hP hD isC isR f1 (zrest isR f2) f3 f4 hk1 hFc hP1 hD1
  rw [show r = r0 val from hw]
  exact kk val H1 locs1 rfl (zsub hP2 isO f5) (hD2.sub isO f6 f5) hS1
theorem z_callVq {y : MethodName} {cb : ByteArray} {nb n idx : Nat} {ret : Option FieldType} {rf rl mc ms : Nat} {As : List Value} {isC isR isO : List Nat} {wc : va_W} {b : Nat} {T : Type} (val : T) (wc' w' : T → va_W) (r0 : T → Option Nat) (hM : ∀ sz, Met l y (zws y cb nb ret) { frames := rf, cells := mc, slots := ms, locals := rl } (zPre E D cy (.ref b :: As) wc sz) (zQq D (wc' val) (va_A wc sz) (r0 val)) mc ms (va_A wc sz)) (hE : zEok E) (C : zC p s m args meth c cc own nL D cy) (hs : zSiteV own idx y cb nb ret n) (hR : rf + 1 ≤ R.frames ∧ 8 + (nb + 11) + rl ≤ R.locals) (hP : va_P D vwCl wv H) (hD : va_D A wv) (hS : va_S A s.heap H locs) (hA : ∀ q, s.heap.size ≤ q → A q) (hE0 : E A s s.heap) (hF : zFr wv wc (wc' val) (w' val) isC isR isO) (q0 : Nat) {ci : Nat} {fs : List Value} {q : vw_C} (he : wv[q0]? = some (b, .inr (ci, fs))) (hc : vwCl[ci]? = some q) (hq : q.1 = y.cls) (hn : As.length = n) (hlen : ls.size = nL) (hcat : (rest.map fun v => v.category).sum ≤ 8) (hst : st0 = As.reverse ++ .ref b :: rest) (hdg : decode cc pc = .ok (.invokevirtual idx, 3)) (hf : cells + mc ≤ R.cells ∧ slots + ms ≤ R.slots)
    (kk : ∀ (o : T) (H1 : Heap) (locs1 : List Loc), o = val → va_P D vwCl (w' o) H1 → va_D A (w' o) → va_S A s.heap H1 locs1 → W p l e R s m args below meth c H1 locs1 (cells + mc) (slots + ms) Q (F0 m (pc + 3) ls (va_rf (r0 o) :: rest))) : W p l e R s m args below meth c H locs cells slots Q (F0 m pc ls st0) := by
  obtain ⟨h1, h2⟩ := zcallee (av := .ref b :: As) hE C hP hD hS hA hE0 hF
  have hrv := va_recv C.K hP hc he
  rw [hq] at hrv
  exact z_goq (va_runV (As := As) (rest := rest) C.fix (hM H.size) (cwV n C.ts hs.1 rfl rfl rfl hs.2 hR) ⟨h1, hrv, h2⟩ rfl hn hlen hst (lv_room hcat) hdg hf) hP hD hS hA hF kk
theorem z_aret {w' : va_W} {R0 v : Option Nat} {rt : FieldType} {mc ms : Nat} (C : zC p s m args meth c cc own nL D cy) (hr : meth.sig.returnType = some rt) (hrt : (∃ n, rt = .object n) ∨ ∃ t, rt = .array t) (hP : va_P D vwCl wv H) (hD : va_D A wv) (hS : va_S A s.heap H locs) (hc : cells ≤ mc) (hs : slots ≤ ms) (hv : v = R0) (hw : wv = w') (hdg : decode cc pc = .ok (.areturn, 1)) : W p l e R s m args below meth c H locs cells slots (MQ below (zQq D w' A R0) args s mc ms A) (F0 m pc ls [va_rf v]) := by
  subst hv hw
  refine W.widen hc hs ?_
  refine W.aret C.x C.b hr hrt ?_ (fun t ht hW => ⟨⟨v, (), rfl, rfl, by rw [ht]; exact hP, hD⟩, hS.F ht⟩) hS.2.2 hdg C.lk
  cases v with
  | none => exact Or.inl rfl
  | some a => exact Or.inr ⟨a, rfl⟩
theorem z_aret' {T : Type} {val : T} (o : T) {w' : T → va_W} {r0 : T → Option Nat} {v : Option Nat} {rt : FieldType} {mc ms : Nat} (hx : val = o) (C : zC p s m args meth c cc own nL D cy) (hr : meth.sig.returnType = some rt) (hrt : (∃ n, rt = .object n) ∨ ∃ t, rt = .array t) (hP : va_P D vwCl wv H) (hD : va_D A wv) (hS : va_S A s.heap H locs) (hc : cells ≤ mc) (hs : slots ≤ ms) (hv : v = r0 o) (hw : wv = w' o) (hdg : decode cc pc = .ok (.areturn, 1)) : W p l e R s m args below meth c H locs cells slots (MQ below (zQq D (w' val) A (r0 val)) args s mc ms A) (F0 m pc ls [va_rf v]) := by
  subst hx
  exact z_aret C hr hrt hP hD hS hc hs hv hw hdg
theorem z_qald (C : zC p s m args meth c cc own nL D cy) (hP : va_P D vwCl wv H) (q0 t0 : Nat) {a n : Nat} {cA : ClassId} {K : String} {f : Nat → Option Nat} (ha : wv[q0]? = some (a, .inl (cA, n, .inr (.inr (.inr (.inr f)))))) (ht : (zT cy)[t0]? = some (cA, .object K)) {i : Int32} {k : Nat} (hi : zi i k) (hk : k < n) (hn : n < 2 ^ 31) {r : Option Nat} (hr : f k = r) (hdg : decode cc pc = .ok (.aaload, 1))
    (kk : W p l e R s m args below meth c H locs cells slots Q (F0 m (pc + 1) ls (va_rf r :: rest))) : W p l e R s m args below meth c H locs cells slots Q (F0 m pc ls (.int i :: .ref a :: rest)) := by
  refine va_aldq C.x C.b C.K hP q0 t0 ha ht (zi_in hi hk hn) hdg ?_
  rw [zi_cl hi hk hn, hr]
  exact kk
theorem z_qast (C : zC p s m args meth c cc own nL D cy) (hP : va_P D vwCl wv H) (hD : va_D A wv) (hS : va_S A s.heap H locs) (q0 t0 qk ci : Nat) {cA : ClassId} {r : vw_C} {a n v : Nat} {vs : List Value} {f : Nat → Option Nat} (ha : wv[q0]? = some (a, .inl (cA, n, .inr (.inr (.inr (.inr f)))))) (ht : (zT cy)[t0]? = some (cA, .object r.1)) (hv : wv[qk]? = some (v, .inr (ci, vs))) (hc : vwCl[ci]? = some r) {i : Int32} {k : Nat} (hi : zi i k) (hk : k < n) (hn : n < 2 ^ 31) {w' : va_W} (hw : wv.set q0 (a, .inl (cA, n, .inr (.inr (.inr (.inr (va_up f k (some v))))))) = w') (hdg : decode cc pc = .ok (.aastore, 1))
    (kk : ∀ (H1 : Heap) (locs1 : List Loc), va_P D vwCl w' H1 → va_D A w' → va_S A s.heap H1 locs1 → W p l e R s m args below meth c H1 locs1 cells slots Q (F0 m (pc + 1) ls rest)) : W p l e R s m args below meth c H locs cells slots Q (F0 m pc ls (.ref v :: .int i :: .ref a :: rest)) := by
  subst hw
  have e := zi_cl hi hk hn
  refine va_astq C.x C.b C.K hP hD hS q0 t0 qk ci ha ht hv hc (zi_in hi hk hn) hdg ?_
  rw [e]
  exact kk
end ZQ
