/-! what stands outside, all of it -/
abbrev zExL : List String := ["java/lang/IllegalStateException", "java/util/NoSuchElementException", "java/lang/IllegalArgumentException", "java/lang/IndexOutOfBoundsException", "java/lang/ArithmeticException"]
abbrev zIsL : List Nat := [53, 70, 78, 107, 138, 199, 234, 251, 277, 281, 298, 322, 327, 329, 332, 340, 342, 350, 353, 355]
abbrev zNcL : List (String × String) := [("java/util/NoSuchElementException", "java/lang/IllegalStateException"), ("java/lang/IllegalStateException", "java/lang/IndexOutOfBoundsException"), ("java/lang/IllegalStateException", "java/lang/IllegalArgumentException"), ("java/lang/IllegalArgumentException", "java/lang/IndexOutOfBoundsException")]
def zE (ad adK adV : Nat → Nat) : zEn := fun A U H => zOutF U ∧ zStF A U H ∧ zCm ad adK adV A U H ∧ zThS A U H ∧ (∀ cls ∈ zExL, ∀ w ∈ zB cls, va_Nw w U) ∧ (∀ is ∈ zIsL, zThE RX8 is U) ∧ ∀ q ∈ zNcL, va_Nc q.1 q.2 U
theorem zSel_warm {w : Cond} (hw : (w.onTables && w.keeps) = true) {s U : State} (hW : s.WarmedH U.vm) (h : va_Nw w s) : va_Nw w U := word_at hW (Or.inl hw) h
theorem zStF.kept {A : Nat → Prop} {U : State} {H H1 : Heap} (h : zStF A U H) (hq : ∀ a : Nat, a < H.size → ¬ A a → H1[a]? = H[a]?) : zStF A U H1 := by
  obtain ⟨h1, ⟨t2, h2, h3⟩, ⟨t4, h4, h5⟩, h6, h7, h8⟩ := h
  exact ⟨h1.kept hq, ⟨t2, h2.kept hq, h3.kept hq⟩, ⟨t4, h4.kept hq, h5.kept hq⟩, h6.kept hq, h7, h8⟩
theorem zStF.narrow {A B : Nat → Prop} {U : State} {H : Heap} (h : zStF A U H) (hB : ∀ q, B q → A q) : zStF B U H := by
  obtain ⟨h1, ⟨t2, h2, h3⟩, ⟨t4, h4, h5⟩, h6, h7, h8⟩ := h
  exact ⟨h1.narrow hB, ⟨t2, h2.narrow hB, h3.narrow hB⟩, ⟨t4, h4.narrow hB, h5.narrow hB⟩, h6.narrow hB, h7, h8⟩
theorem zStF.warm {A : Nat → Prop} {s U : State} {H : Heap} (h : zStF A s H) (hW : s.WarmedH U.vm) : zStF A U H := by
  obtain ⟨h1, ⟨t2, h2, h3⟩, ⟨t4, h4, h5⟩, h6, h7, h8⟩ := h
  exact ⟨va_Z.moved hW.alike h1, ⟨t2, va_Z.moved hW.alike h2, va_T.moved hW.alike h3⟩, ⟨t4, va_Z.moved hW.alike h4, va_T.moved hW.alike h5⟩, va_Zq.moved hW.alike h6, zSel_warm rfl hW h7, zSel_warm rfl hW h8⟩
theorem zStF.same {A : Nat → Prop} {s U : State} {H : Heap} (h : zStF A s H) (hv : s.vm = U.vm) : zStF A U H := by
  have hm : s.vm.Alike U.vm := by rw [← hv]; exact Vm.Alike.refl s.vm
  obtain ⟨h1, ⟨t2, h2, h3⟩, ⟨t4, h4, h5⟩, h6, h7, h8⟩ := h
  exact ⟨va_Z.moved hm h1, ⟨t2, va_Z.moved hm h2, va_T.moved hm h3⟩, ⟨t4, va_Z.moved hm h4, va_T.moved hm h5⟩, va_Zq.moved hm h6, va_Nw.same rfl hv h7, va_Nw.same rfl hv h8⟩
section CM
variable {ad adK adV : Nat → Nat}
theorem zCm.kept {A : Nat → Prop} {U : State} {H H1 : Heap} (h : zCm ad adK adV A U H) (hq : ∀ a : Nat, a < H.size → ¬ A a → H1[a]? = H[a]?) : zCm ad adK adV A U H1 := by
  obtain ⟨⟨t1, h1, h2⟩, ⟨t3, h3, h4⟩, h5, h6, h7⟩ := h
  exact ⟨⟨t1, h1.kept hq, h2.kept hq⟩, ⟨t3, h3.kept hq, h4.kept hq⟩, fun i hi => ⟨(h5 i hi).1.kept hq, (h5 i hi).2.1.kept hq, (h5 i hi).2.2.1.kept hq, (h5 i hi).2.2.2.kept hq⟩, h6.kept hq, h7⟩
theorem zCm.narrow {A B : Nat → Prop} {U : State} {H : Heap} (h : zCm ad adK adV A U H) (hB : ∀ q, B q → A q) : zCm ad adK adV B U H := by
  obtain ⟨⟨t1, h1, h2⟩, ⟨t3, h3, h4⟩, h5, h6, h7⟩ := h
  exact ⟨⟨t1, h1.narrow hB, h2.narrow hB⟩, ⟨t3, h3.narrow hB, h4.narrow hB⟩, fun i hi => ⟨(h5 i hi).1.narrow hB, (h5 i hi).2.1.narrow hB, (h5 i hi).2.2.1.narrow hB, (h5 i hi).2.2.2.narrow hB⟩, h6.narrow hB, h7⟩
theorem zCm.alike {A : Nat → Prop} {s U : State} {H : Heap} (h : zCm ad adK adV A s H) (hm : s.vm.Alike U.vm) (hn : va_Nw (.fieldLinkNest RX5 62 "PinballScorer" "COMMANDS" "[LPinballScorer$Command;" "PinballScorer") U) : zCm ad adK adV A U H := by
  obtain ⟨⟨t1, h1, h2⟩, ⟨t3, h3, h4⟩, h5, h6, h7⟩ := h
  exact ⟨⟨t1, va_Z.moved hm h1, va_T.moved hm h2⟩, ⟨t3, va_Z.moved hm h3, va_T.moved hm h4⟩, fun i hi => ⟨va_O.moved hm (h5 i hi).1, va_OF.moved hm (h5 i hi).2.1, va_OF.moved hm (h5 i hi).2.2.1, va_OF.moved hm (h5 i hi).2.2.2⟩, vk_S.moved hm h6, hn⟩
theorem zE_ok (ad adK adV : Nat → Nat) : zEok (zE ad adK adV) := by
  refine ⟨?_, ?_, ?_, ?_⟩
  · rintro A U H H1 ⟨h1, h2, h3, h4, h5, h6, h7⟩ hq
    exact ⟨h1, h2.kept hq, h3.kept hq, ⟨h4.1.kept hq, h4.2.kept hq⟩, h5, h6, h7⟩
  · rintro A B U H ⟨h1, h2, h3, h4, h5, h6, h7⟩ hB
    exact ⟨h1, h2.narrow hB, h3.narrow hB, ⟨h4.1.narrow hB, h4.2.narrow hB⟩, h5, h6, h7⟩
  · rintro A s U H hW ⟨h1, h2, h3, h4, h5, h6, h7⟩
    exact ⟨h1.warm hW, h2.warm hW, h3.alike hW.alike (va_Nw.warmF hW h3.2.2.2.2), ⟨vx_Zq.moved hW.alike h4.1, vx_Zq.moved hW.alike h4.2⟩, fun cls hc => zB_warm hW (h5 cls hc), fun is hi => by
      obtain ⟨tx, sa, h⟩ := h6 is hi
      exact ⟨tx, sa, vk_R.warm hW h⟩, fun q hq => va_Nc.moved hW.alike (h7 q hq)⟩
  · rintro A s U H hv ⟨h1, h2, h3, h4, h5, h6, h7⟩
    have hm : s.vm.Alike U.vm := by rw [← hv]; exact Vm.Alike.refl s.vm
    exact ⟨zOutF.same hv h1, h2.same hv, h3.alike hm (va_Nw.same rfl hv h3.2.2.2.2), ⟨vx_Zq.moved hm h4.1, vx_Zq.moved hm h4.2⟩, fun cls hc => zB_same hv (h5 cls hc), fun is hi => by
      obtain ⟨tx, sa, h⟩ := h6 is hi
      exact ⟨tx, sa, vk_R.same hv.symm h⟩, fun q hq => va_Nc.moved hm (h7 q hq)⟩
theorem zE_F : zOut (zE ad adK adV) := fun _ _ _ h => h.1
theorem zE_B : zOutB (zE ad adK adV) := fun _ _ _ h => h.2.1
theorem zE_C : zOutC (zE ad adK adV) ad adK adV := fun _ _ _ h => h.2.2.1
theorem zE_X : zOutX (zE ad adK adV) := fun _ _ _ h => ⟨h.2.2.2.1, fun cls hc => h.2.2.2.2.1 cls hc, fun is hi => h.2.2.2.2.2.1 is hi⟩
theorem zE_N : zOutN (zE ad adK adV) := fun _ _ _ h q hq => h.2.2.2.2.2.2 q hq
end CM
