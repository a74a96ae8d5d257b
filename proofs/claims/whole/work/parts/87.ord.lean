section ORD
variable {p : Program} {l : Launch} {e : Env} {R : Room} {s : State} {m : MethodId} {args : Array Value} {below : List Frame} {meth : Method} {c : Code} {H : Heap} {locs : List Loc} {cells slots : Nat} {Q : State → Prop}
variable {cc : ByteArray} {nL : Nat} {D : zG} {cy : Nat → ClassId} {E : zEn} {A : Nat → Prop} {wv : va_W} {pc : Nat} {ls : Array Slot} {rest st0 : List Value}
theorem z_ord {ad adK adV : Nat → Nat} (hOC : zOutC E ad adK adV) (hE : zEok E) (C : zC p s m args meth c cc RX6 nL D cy) (hP : va_P D vwCl wv H) (hD : va_D A wv) (hS : va_S A s.heap H locs) (hA : ∀ q, s.heap.size ≤ q → A q) (hE0 : E A s s.heap) {i : Nat} (hi : i < 8) (hR : 1 ≤ R.frames ∧ 20 ≤ R.locals) (hlen : ls.size = nL) (hcat : (rest.map fun v => v.category).sum ≤ 8) (hdg : decode cc pc = .ok (.invokevirtual 167, 3)) (hf : cells ≤ R.cells ∧ slots ≤ R.slots)
    (kk : ∀ (H1 : Heap) (locs1 : List Loc), va_P D vwCl wv H1 → va_D A wv → va_S A s.heap H1 locs1 → W p l e R s m args below meth c H1 locs1 (cells + 0) (slots + 0) Q (F0 m (pc + 3) ls (.int (nI i) :: rest))) : W p l e R s m args below meth c H locs cells slots Q (F0 m pc ls (.ref (ad i) :: rest)) := by
  obtain ⟨h1, h2⟩ := zcallee1 (wc := []) (isC := []) (av := [.ref (ad i)]) hE C hP hD hS hA hE0 rfl rfl
  obtain ⟨cell, hc1, hc2, hc3, -⟩ := ((hOC _ _ _ hE0).2.2.1 i hi).1.kept hS.2.1
  have hK : Back l R p e below s args yJx29ce0_ordinal_8abf5 3 8 (PreOf R 0 0 (zPre E D cy [.ref (ad i)] [] H.size)) (PostOf (zQi D [] (va_A [] H.size) (nI i)) 0 0 (va_A [] H.size)) := by
    refine z_backU (bytes := cJx29ce0_ordinal_8abf5) (maxL := 1) (ret := some .int) (rm := { frames := 0, cells := 0, slots := 0, locals := 0 }) (by decide +kernel) h1 rfl rfl hR.1 hR.2 (fun a' U hW => word_at hW (Or.inl (by decide)) (C.ts _ zm1411)) ?_
    intro s' m' a' below' meth' c' hW hX hB hml hr hlk hn hPc
    obtain ⟨rfl, hsz, hP', hK', hD', hE'⟩ := hPc
    have hl := lv_entry [Value.ref (ad i)] (n := 1) (Nat.le_of_ble_eq_true rfl)
    rw [lg_entry_eq]
    have hof := ((hOC _ _ _ hE').2.2.1 i hi).2.1
    have hS0 : va_S (va_A [] H.size) s'.heap s'.heap [] := va_S.rf
    refine lv_aload_n hX hB dJx29ce0_ordinal_8abf5_0 rfl (lv_at hl 0 rfl) ?_
    refine vk_getf hX hB hof hS0 (findClass_of_methodNamed hn) (word_at hW (Or.inl (by decide)) (C.ts _ zm1412)) (fun _ h => h) dJx29ce0_ordinal_8abf5_1 ?_
    exact W.iret hX hB hr (fun t ht hW => ⟨⟨nI i, (), rfl, rfl, fun k q hk => by simp at hk, ⟨fun i j p q hp => by simp at hp, fun k q hk => by simp at hk⟩⟩, hS0.F ht⟩) hS0.2.2 dJx29ce0_ordinal_8abf5_4 hlk
  have hr : va_Run p l e R s m args below meth c H locs cells slots 0 0 (F0 m pc ls (.ref (ad i) :: rest)) rest (zQi D [] (va_A [] H.size) (nI i) [Value.ref (ad i)].toArray) (va_A [] H.size) := by
    intro T hT X
    have hx := C.x
    obtain ⟨v, vm₁, ⟨U', l2, c2, s2⟩, hW₁, X', ⟨g', mk, t, L, e1, e2, hq, g1, hL, g2, g3⟩, st⟩ := va_callVU X hx (C := RX2) (owner := "java/lang/Enum") (x := ⟨"PinballScorer$Command", "ordinal", "()I"⟩) (y := yJx29ce0_ordinal_8abf5) (bytes := cJx29ce0_ordinal_8abf5) (maxL := 1) (ret := some .int) C.o (C.ts _ zm1406) (C.ts _ zm1407) (va_Decl.of (C.ts _ zm1409) (C.ts _ zm1411)) ⟨by decide, by decide⟩ (C.ts _ zm1408) (C.ts _ zm1409) (C.ts _ zm1411) hK (b := ad i) (by rw [hT]; exact hc1) hc2 hc3 (g := F0 m pc ls (.ref (ad i) :: rest)) rfl (hlen.trans C.2.2.1.symm) (argsL := []) (rest := rest) (fun sig h => by
        have : (parseMethodDescriptor "()I").map (fun d => d.parameters.length) = some 0 := by decide +kernel
        rw [h] at this
        exact (Option.some.inj this).symm) rfl (lv_room hcat) (by rw [C.b]; exact hdg)
      (fun vm₁ hW₁ => ⟨hf.1, hf.2, h2 (T.setVm vm₁) hT hW₁⟩)
    dsimp only [Pt.U, Pt.locs, Pt.cells, Pt.slots] at X' e1 e2 g1 g2 g3 st
    subst g1; subst g2; subst g3
    exact ⟨v, (T.setVm vm₁).calling g' mk [Value.ref (ad i)].toArray, t, U', L, hT, X', hL, e1, e2, hq, st⟩
  exact z_gon1 hr hP hD hS hA kk
end ORD
