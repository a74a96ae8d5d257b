/-! what stands outside: nest links, arrays over classes -/
def zOutF (U : State) : Prop := va_AO "PinballScorer$Table" U ∧ va_AO "PinballScorer$Command" U ∧ va_Nw (.methodLinkNest RX8 9 yX6_init "PinballScorer") U ∧ va_Nw (.methodLinkNest RX6 20 yX1_init "PinballScorer") U ∧ va_Nw (.methodLinkNest RX6 27 yX4_init "PinballScorer") U ∧ va_Nw (.methodLinkNest RX6 34 yX7_init "PinballScorer") U ∧ va_Nw (.methodLinkNest RX3 17 yX6_init "PinballScorer") U ∧ va_Nw (.methodLinkNest RX8 28 yX1_init "PinballScorer") U ∧ va_Nw (.methodLinkNest RX8 42 yX5_init "PinballScorer") U ∧ va_Nw (.methodLinkNest RX1 52 yX8_copyAll "PinballScorer") U ∧ va_Nw (.methodLinkNest RX1 65 yX8_allTrue "PinballScorer") U ∧ va_Nw (.methodLinkNest RX1 26 yX8_clearAll "PinballScorer") U ∧ va_Nw (.methodLinkNest RX6 198 yX8_isIndex "PinballScorer") U ∧ va_Nw (.methodLinkNest RX6 201 yX8_isForce "PinballScorer") U
theorem zOutF.aoT {U : State} (h : zOutF U) : va_AO "PinballScorer$Table" U := h.1
theorem zOutF.aoM {U : State} (h : zOutF U) : va_AO "PinballScorer$Command" U := h.2.1
theorem zOutF.nX8_9 {U : State} (h : zOutF U) : va_Nw (.methodLinkNest RX8 9 yX6_init "PinballScorer") U := h.2.2.1
theorem zOutF.nX6_20 {U : State} (h : zOutF U) : va_Nw (.methodLinkNest RX6 20 yX1_init "PinballScorer") U := h.2.2.2.1
theorem zOutF.nX6_27 {U : State} (h : zOutF U) : va_Nw (.methodLinkNest RX6 27 yX4_init "PinballScorer") U := h.2.2.2.2.1
theorem zOutF.nX6_34 {U : State} (h : zOutF U) : va_Nw (.methodLinkNest RX6 34 yX7_init "PinballScorer") U := h.2.2.2.2.2.1
theorem zOutF.nX3_17 {U : State} (h : zOutF U) : va_Nw (.methodLinkNest RX3 17 yX6_init "PinballScorer") U := h.2.2.2.2.2.2.1
theorem zOutF.nX8_28 {U : State} (h : zOutF U) : va_Nw (.methodLinkNest RX8 28 yX1_init "PinballScorer") U := h.2.2.2.2.2.2.2.1
theorem zOutF.nX8_42 {U : State} (h : zOutF U) : va_Nw (.methodLinkNest RX8 42 yX5_init "PinballScorer") U := h.2.2.2.2.2.2.2.2.1
theorem zOutF.nX1_52 {U : State} (h : zOutF U) : va_Nw (.methodLinkNest RX1 52 yX8_copyAll "PinballScorer") U := h.2.2.2.2.2.2.2.2.2.1
theorem zOutF.nX1_65 {U : State} (h : zOutF U) : va_Nw (.methodLinkNest RX1 65 yX8_allTrue "PinballScorer") U := h.2.2.2.2.2.2.2.2.2.2.1
theorem zOutF.nX1_26 {U : State} (h : zOutF U) : va_Nw (.methodLinkNest RX1 26 yX8_clearAll "PinballScorer") U := h.2.2.2.2.2.2.2.2.2.2.2.1
theorem zOutF.nX6_198 {U : State} (h : zOutF U) : va_Nw (.methodLinkNest RX6 198 yX8_isIndex "PinballScorer") U := h.2.2.2.2.2.2.2.2.2.2.2.2.1
theorem zOutF.nX6_201 {U : State} (h : zOutF U) : va_Nw (.methodLinkNest RX6 201 yX8_isForce "PinballScorer") U := h.2.2.2.2.2.2.2.2.2.2.2.2.2
theorem zOutF.warm {s U : State} (hW : s.WarmedH U.vm) (h : zOutF s) : zOutF U :=
  ⟨va_AO.moved hW.alike h.aoT, va_AO.moved hW.alike h.aoM, va_Nw.warmM hW h.nX8_9, va_Nw.warmM hW h.nX6_20, va_Nw.warmM hW h.nX6_27, va_Nw.warmM hW h.nX6_34, va_Nw.warmM hW h.nX3_17, va_Nw.warmM hW h.nX8_28, va_Nw.warmM hW h.nX8_42, va_Nw.warmM hW h.nX1_52, va_Nw.warmM hW h.nX1_65, va_Nw.warmM hW h.nX1_26, va_Nw.warmM hW h.nX6_198, va_Nw.warmM hW h.nX6_201⟩
theorem zOutF.same {s U : State} (hv : s.vm = U.vm) (h : zOutF s) : zOutF U :=
  ⟨va_AO.moved (by rw [← hv]; exact Vm.Alike.refl s.vm) h.aoT, va_AO.moved (by rw [← hv]; exact Vm.Alike.refl s.vm) h.aoM, va_Nw.same rfl hv h.nX8_9, va_Nw.same rfl hv h.nX6_20, va_Nw.same rfl hv h.nX6_27, va_Nw.same rfl hv h.nX6_34, va_Nw.same rfl hv h.nX3_17, va_Nw.same rfl hv h.nX8_28, va_Nw.same rfl hv h.nX8_42, va_Nw.same rfl hv h.nX1_52, va_Nw.same rfl hv h.nX1_65, va_Nw.same rfl hv h.nX1_26, va_Nw.same rfl hv h.nX6_198, va_Nw.same rfl hv h.nX6_201⟩
def zOut (E : zEn) : Prop := ∀ (A : Nat → Prop) (U : State) (H : Heap), E A U H → zOutF U
