/-! what stands outside, out of the statement's premises of the start -/
section ST
variable {args : Array Value} {s : State} {A : Nat → Prop}
abbrev n34 : List Jvm.Cond := flatC narrow_1_3 ++ flatC narrow_1_4
theorem nk_1 (hgv : (Jvm.Cond.and given_1 narrow_1).before args s = true) : ∀ c ∈ flatC narrow_1_1, c.before args s = true := fun c h => flat_of_before _ hgv c (show c ∈ flatC given_1 ++ ((flatC narrow_1_1 ++ flatC narrow_1_2) ++ (flatC narrow_1_3 ++ flatC narrow_1_4)) from List.mem_append_right _ (List.mem_append_left _ (List.mem_append_left _ h)))
theorem nk_2 (hgv : (Jvm.Cond.and given_1 narrow_1).before args s = true) : ∀ c ∈ flatC narrow_1_2, c.before args s = true := fun c h => flat_of_before _ hgv c (show c ∈ flatC given_1 ++ ((flatC narrow_1_1 ++ flatC narrow_1_2) ++ (flatC narrow_1_3 ++ flatC narrow_1_4)) from List.mem_append_right _ (List.mem_append_left _ (List.mem_append_right _ h)))
theorem nk_34 (hgv : (Jvm.Cond.and given_1 narrow_1).before args s = true) : ∀ c ∈ n34, c.before args s = true := fun c h => flat_of_before _ hgv c (show c ∈ flatC given_1 ++ ((flatC narrow_1_1 ++ flatC narrow_1_2) ++ (flatC narrow_1_3 ++ flatC narrow_1_4)) from List.mem_append_right _ (List.mem_append_right _ h))
theorem nk_3 (hgv : (Jvm.Cond.and given_1 narrow_1).before args s = true) : ∀ c ∈ flatC narrow_1_3, c.before args s = true := fun c h => nk_34 hgv c (List.mem_append_left _ h)
set_option maxRecDepth 100000 in
theorem nd_DigitOnes : ∀ j, j < 100 → (flatC narrow_1_1)[10 + j]? = some (Cond.eq (Term.elem (Term.static "java/lang/Integer" "DigitOnes" "[B") (.int (Int32.ofNat j))) (.int (nI (48 + j % 10)))) := by decide +kernel
set_option maxRecDepth 100000 in
theorem ns_DigitOnes (hgv : (Jvm.Cond.and given_1 narrow_1).before args s = true) (hts : ∀ w ∈ lw_tbl, w.before args s = true) (hA : ∀ a : Nat, a < s.heap.size → ¬ A a) : ∃ t : Nat, va_Z "java/lang/Integer" "DigitOnes" "[B" (.ref t) A s s.heap ∧ va_T .byte t 100 (fun j => .int (nI (48 + j % 10))) A s s.heap := by
  obtain ⟨t, h1, h2⟩ := va_Tof (tm := Term.static "java/lang/Integer" "DigitOnes" "[B") (ty := .byte) (N := 100) (f := fun j => .int (nI (48 + j % 10))) (A := A) (by decide) (nk_1 hgv _ (List.mem_of_getElem? (i := 8) (by decide +kernel))) (va_eqt (nk_1 hgv _ (List.mem_of_getElem? (i := 9) (by decide +kernel)))) (fun j hj => va_eqt (nk_1 hgv _ (List.mem_of_getElem? (nd_DigitOnes j hj)))) hA
  exact ⟨t, va_Zof (hts _ (by decide +kernel)) (hts _ (by decide +kernel)) h1 hA, h2⟩
set_option maxRecDepth 100000 in
theorem nd_DigitTens : ∀ j, j < 100 → (flatC narrow_1_1)[113 + j]? = some (Cond.eq (Term.elem (Term.static "java/lang/Integer" "DigitTens" "[B") (.int (Int32.ofNat j))) (.int (nI (48 + j / 10)))) := by decide +kernel
set_option maxRecDepth 100000 in
theorem ns_DigitTens (hgv : (Jvm.Cond.and given_1 narrow_1).before args s = true) (hts : ∀ w ∈ lw_tbl, w.before args s = true) (hA : ∀ a : Nat, a < s.heap.size → ¬ A a) : ∃ t : Nat, va_Z "java/lang/Integer" "DigitTens" "[B" (.ref t) A s s.heap ∧ va_T .byte t 100 (fun j => .int (nI (48 + j / 10))) A s s.heap := by
  obtain ⟨t, h1, h2⟩ := va_Tof (tm := Term.static "java/lang/Integer" "DigitTens" "[B") (ty := .byte) (N := 100) (f := fun j => .int (nI (48 + j / 10))) (A := A) (by decide) (nk_1 hgv _ (List.mem_of_getElem? (i := 111) (by decide +kernel))) (va_eqt (nk_1 hgv _ (List.mem_of_getElem? (i := 112) (by decide +kernel)))) (fun j hj => va_eqt (nk_1 hgv _ (List.mem_of_getElem? (nd_DigitTens j hj)))) hA
  exact ⟨t, va_Zof (hts _ (by decide +kernel)) (hts _ (by decide +kernel)) h1 hA, h2⟩
set_option maxRecDepth 100000 in
theorem ns_sel1 (hts : ∀ w ∈ lw_tbl, w.before args s = true) : va_Nw (.selects RJ4 yJ5_ensureCapacityInternal_d00df yJ5_ensureCapacityInternal_d00df) s := va_Nw.of rfl (z_selP (K := RJ4) (n := 4) ⟨by decide +kernel, by decide +kernel⟩ (hts _ (by decide +kernel)) (hts _ (by decide +kernel)) (hts _ (by decide +kernel)) (hts _ (by decide +kernel)))
set_option maxRecDepth 100000 in
theorem ns_sel2 (hts : ∀ w ∈ lw_tbl, w.before args s = true) : va_Nw (.selects RJ4 yJ5_newCapacity_0f7a4 yJ5_newCapacity_0f7a4) s := va_Nw.of rfl (z_selP (K := RJ4) (n := 4) ⟨by decide +kernel, by decide +kernel⟩ (hts _ (by decide +kernel)) (hts _ (by decide +kernel)) (hts _ (by decide +kernel)) (hts _ (by decide +kernel)))
set_option maxRecDepth 100000 in
theorem ns_St (hgv : (Jvm.Cond.and given_1 narrow_1).before args s = true) (hts : ∀ w ∈ lw_tbl, w.before args s = true) (hA : ∀ a : Nat, a < s.heap.size → ¬ A a) : zStF A s s.heap := by
  refine ⟨va_Zof (hts _ (by decide +kernel)) (hts _ (by decide +kernel)) (va_eqt (nk_1 hgv _ (List.mem_of_getElem? (i := 2) (by decide +kernel)))) hA, ns_DigitOnes hgv hts hA, ns_DigitTens hgv hts hA, va_Zqof (hts _ (by decide +kernel)) (hts _ (by decide +kernel)) (nk_1 hgv _ (List.mem_of_getElem? (i := 3) (by decide +kernel))) hA, ns_sel1 hts, ns_sel2 hts⟩
set_option maxRecDepth 100000 in
theorem ns_Th (hgv : (Jvm.Cond.and given_1 narrow_1).before args s = true) (hts : ∀ w ∈ lw_tbl, w.before args s = true) (hA : ∀ a : Nat, a < s.heap.size → ¬ A a) : zThS A s s.heap :=
  ⟨vx_Zqof (hts _ (by decide +kernel)) (hts _ (by decide +kernel)) (nk_1 hgv _ (List.mem_of_getElem? (i := 213) (by decide +kernel))) hA, vx_Zqof (hts _ (by decide +kernel)) (hts _ (by decide +kernel)) (nk_1 hgv _ (List.mem_of_getElem? (i := 214) (by decide +kernel))) hA⟩
def zcst (i : Nat) : Term := Term.static "PinballScorer$Command" (["PLAYER", "START", "LANE", "BUMPER", "TARGET", "NUDGE", "DRAIN", "QUIT"].getD i "") "LPinballScorer$Command;"
def zwst (i : Nat) : Term := Term.string "PinballScorer$Command" ([56, 62, 65, 68, 71, 74, 77, 80].getD i 0)
set_option maxRecDepth 100000 in
theorem nc_ex : ∀ i, i < 8 → (flatC narrow_1_1)[[239, 243, 248, 254, 261, 269, 278, 288].getD i 0]? = some (Cond.exactly (zcst i) "PinballScorer$Command") := by decide +kernel
set_option maxRecDepth 100000 in
theorem nc_od : ∀ i, i < 8 → (flatC narrow_1_1)[[240, 244, 249, 255, 262, 270, 279, 289].getD i 0]? = some (Cond.eq (Term.field (zcst i) "java/lang/Enum" "ordinal" "I") (.int (nI i))) := by decide +kernel
set_option maxRecDepth 100000 in
theorem nc_wd : ∀ i, i < 8 → (flatC narrow_1_1)[[241, 245, 250, 256, 263, 271, 280, 290].getD i 0]? = some (Cond.eq (Term.field (zcst i) "PinballScorer$Command" "word" "Ljava/lang/String;") (zwst i)) := by decide +kernel
set_option maxRecDepth 100000 in
theorem nc_td : ∀ i, i < 8 → (flatC narrow_1_1)[[242, 246, 251, 257, 264, 272, 281, 291].getD i 0]? = some (Cond.eq (Term.field (zcst i) "PinballScorer$Command" "takesDigit" "Z") (.int (if 2 ≤ i ∧ i < 6 then 1 else 0))) := by decide +kernel
set_option maxRecDepth 100000 in
theorem nc_el : ∀ i, i < 8 → (flatC narrow_1_1)[220 + i]? = some (Cond.eq (Term.elem (Term.static "PinballScorer" "COMMANDS" "[LPinballScorer$Command;") (.int (Int32.ofNat i))) (zcst i)) := by decide +kernel
set_option maxRecDepth 100000 in
theorem nc_sw : ∀ i, i < 8 → (flatC narrow_1_1)[231 + i]? = some (Cond.eq (Term.elem (Term.static "PinballScorer$1" "$SwitchMap$PinballScorer$Command" "[I") (.int (Int32.ofNat i))) (.int (if i < 7 then nI (i + 1) else 0))) := by decide +kernel
set_option maxRecDepth 100000 in
theorem nw_ex : ∀ i, i < 8 → n34[[346, 356, 365, 374, 385, 396, 406, 415].getD i 0]? = some (Cond.exactly (zwst i) "java/lang/String") := by decide +kernel
set_option maxRecDepth 100000 in
theorem nw_co : ∀ i, i < 8 → n34[[347, 357, 366, 375, 386, 397, 407, 416].getD i 0]? = some (Cond.eq (.field (zwst i) "java/lang/String" "coder" "B") (.int 0)) := by decide +kernel
set_option maxRecDepth 100000 in
theorem nw_ar : ∀ i, i < 8 → n34[[348, 358, 367, 376, 387, 398, 408, 417].getD i 0]? = some (Cond.arrayOf (.field (zwst i) "java/lang/String" "value" "[B") .byte) := by decide +kernel
set_option maxRecDepth 100000 in
theorem nw_le : ∀ i, i < 8 → n34[[349, 359, 368, 377, 388, 399, 409, 418].getD i 0]? = some (Cond.eq (.length (.field (zwst i) "java/lang/String" "value" "[B")) (.int (Int32.ofNat (zlens.getD i 0)))) := by decide +kernel
set_option maxRecDepth 100000 in
theorem nw_el : ∀ i, i < 8 → ∀ j, j < zlens.getD i 0 → n34[([[350, 351, 352, 353, 354, 355], [360, 361, 362, 363, 364], [369, 370, 371, 372, 373], [378, 379, 380, 381, 382, 383, 384], [389, 390, 391, 392, 393, 394, 395], [400, 401, 402, 403, 404, 405], [410, 411, 412, 413, 414], [419, 420, 421, 422]].getD i []).getD j 0]? = some (Cond.eq (.elem (.field (zwst i) "java/lang/String" "value" "[B") (.int (Int32.ofNat j))) (.int ((zbyts.getD i []).getD j 0))) := by decide +kernel
theorem nw_fst : ∀ i, i < 8 → ∀ j, j < 8 → (zbyts.getD i []).getD 0 0 = (zbyts.getD j []).getD 0 0 → i = j := by decide +kernel
theorem nw_len : ∀ i, i < 8 → zlens.getD i 0 < 2 ^ 31 ∧ 0 < zlens.getD i 0 := by decide +kernel
theorem zOF_inj {o n d : String} {v v' : Value} {t : Nat} {U : State} {H : Heap} (h : va_OF o n d v t A U H) (h' : va_OF o n d v' t A U H) : v = v' := by
  obtain ⟨cf, k, i, f, cell, h1, h2, h3, h4, h5, h6⟩ := h
  obtain ⟨cf', k', i', f', cell', g1, g2, g3, g4, g5, g6⟩ := h'
  rw [h1] at g1
  cases Option.some.inj g1
  rw [h3] at g3
  cases Option.some.inj g3
  rw [h5] at g5
  exact Option.some.inj g5
theorem zT_inj {ty : FieldType} {t N N' : Nat} {f f' : Nat → Value} {U : State} {H : Heap} (h : va_T ty t N f A U H) (h' : va_T ty t N' f' A U H) (h0 : 0 < N) (h0' : 0 < N') : f 0 = f' 0 := by
  obtain ⟨cell, h1, -, -, -, -, h6, -⟩ := h
  obtain ⟨cell', g1, -, -, -, -, g6, -⟩ := h'
  rw [h1] at g1
  cases Option.some.inj g1
  have a1 := h6 0 h0
  have a2 := g6 0 h0'
  rw [a1] at a2
  exact Option.some.inj a2
set_option maxRecDepth 100000 in
theorem ns_S (hgv : (Jvm.Cond.and given_1 narrow_1).before args s = true) (hA : ∀ a : Nat, a < s.heap.size → ¬ A a) : ∃ adK adV : Nat → Nat, vk_S 8 zlens zbyts adK adV A s s.heap ∧ ∀ i : Nat, i < 8 → (zwst i).eval args s none [] s = some (.ref (adK i)) := by
  have h0 : ∀ i : Nat, ∃ q : Nat × Nat, i < 8 → (zwst i).eval args s none [] s = some (.ref q.1) ∧ va_O "java/lang/String" q.1 A s s.heap ∧ va_OF "java/lang/String" "coder" "B" (.int 0) q.1 A s s.heap ∧ va_OF "java/lang/String" "value" "[B" (.ref q.2) q.1 A s s.heap ∧ va_T .byte q.2 (zlens.getD i 0) (fun j => .int ((zbyts.getD i []).getD j 0)) A s s.heap := by
    intro i
    by_cases hi : i < 8
    · have hex := nk_34 hgv _ (List.mem_of_getElem? (nw_ex i hi))
      obtain ⟨a, c, cA, kA, q1, -⟩ := Cond.exactly_spec (args := args) (first := s) (o := none) (s := s) (idx := []) (t := zwst i) (cls := "java/lang/String") hex
      obtain ⟨t, ht, hT⟩ := va_Tof (f := fun j => .int ((zbyts.getD i []).getD j 0)) (A := A) (nw_len i hi).1 (nk_34 hgv _ (List.mem_of_getElem? (nw_ar i hi))) (va_eqt (nk_34 hgv _ (List.mem_of_getElem? (nw_le i hi)))) (fun j hj => va_eqt (nk_34 hgv _ (List.mem_of_getElem? (nw_el i hi j hj)))) hA
      exact ⟨(a, t), fun _ => ⟨q1, va_Oof hex q1 hA, vk_OFof q1 (va_eqt (nk_34 hgv _ (List.mem_of_getElem? (nw_co i hi)))) hA, vk_OFof q1 ht hA, hT⟩⟩
    · exact ⟨(0, 0), fun h => absurd h hi⟩
  refine ⟨fun i => (Classical.choose (h0 i)).1, fun i => (Classical.choose (h0 i)).2, ⟨fun i hi => (Classical.choose_spec (h0 i) hi).2, fun i j hi hj hij => ?_⟩, fun i hi => (Classical.choose_spec (h0 i) hi).1⟩
  obtain ⟨-, -, -, a3, a4⟩ := Classical.choose_spec (h0 i) hi
  obtain ⟨-, -, -, b3, b4⟩ := Classical.choose_spec (h0 j) hj
  rw [← show (Classical.choose (h0 i)).1 = (Classical.choose (h0 j)).1 from hij] at b3
  have e1 := zOF_inj a3 b3
  rw [← (Value.ref.inj e1)] at b4
  have e2 := zT_inj a4 b4 (nw_len i hi).2 (nw_len j hj).2
  exact nw_fst i hi j hj (Value.int.inj e2)
set_option maxRecDepth 100000 in
theorem ns_Cm (hgv : (Jvm.Cond.and given_1 narrow_1).before args s = true) (hts : ∀ w ∈ lw_tbl, w.before args s = true) (hA : ∀ a : Nat, a < s.heap.size → ¬ A a) : ∃ ad adK adV : Nat → Nat, zCm ad adK adV A s s.heap := by
  obtain ⟨adK, adV, hS, hK⟩ := ns_S hgv hA
  have h0 : ∀ i : Nat, ∃ a : Nat, i < 8 → (zcst i).eval args s none [] s = some (.ref a) := by
    intro i
    by_cases hi : i < 8
    · obtain ⟨a, c, cA, kA, q1, -⟩ := Cond.exactly_spec (args := args) (first := s) (o := none) (s := s) (idx := []) (t := zcst i) (cls := "PinballScorer$Command") (nk_1 hgv _ (List.mem_of_getElem? (nc_ex i hi)))
      exact ⟨a, fun _ => q1⟩
    · exact ⟨0, fun h => absurd h hi⟩
  obtain ⟨ad, had⟩ : ∃ ad : Nat → Nat, ∀ i, i < 8 → (zcst i).eval args s none [] s = some (.ref (ad i)) := ⟨fun i => Classical.choose (h0 i), fun i hi => Classical.choose_spec (h0 i) hi⟩
  obtain ⟨tC, c1, c2⟩ := va_Tof (tm := Term.static "PinballScorer" "COMMANDS" "[LPinballScorer$Command;") (ty := .object "PinballScorer$Command") (N := 8) (f := fun j => .ref (ad j)) (A := A) (by decide) (nk_1 hgv _ (List.mem_of_getElem? (i := 217) (by decide +kernel))) (va_eqt (nk_1 hgv _ (List.mem_of_getElem? (i := 218) (by decide +kernel)))) (fun j hj => va_eqv (nk_1 hgv _ (List.mem_of_getElem? (nc_el j hj))) (had j hj)) hA
  obtain ⟨tS, c3, c4⟩ := va_Tof (tm := Term.static "PinballScorer$1" "$SwitchMap$PinballScorer$Command" "[I") (ty := .int) (N := 8) (f := fun j => .int (if j < 7 then nI (j + 1) else 0)) (A := A) (by decide) (nk_1 hgv _ (List.mem_of_getElem? (i := 229) (by decide +kernel))) (va_eqt (nk_1 hgv _ (List.mem_of_getElem? (i := 230) (by decide +kernel)))) (fun j hj => va_eqt (nk_1 hgv _ (List.mem_of_getElem? (nc_sw j hj)))) hA
  refine ⟨ad, adK, adV, ⟨tC, va_Zof (hts _ (by decide +kernel)) (hts _ (by decide +kernel)) c1 hA, c2⟩, ⟨tS, va_Zof (hts _ (by decide +kernel)) (hts _ (by decide +kernel)) c3 hA, c4⟩, fun i hi => ⟨va_Oof (nk_1 hgv _ (List.mem_of_getElem? (nc_ex i hi))) (had i hi) hA, vk_OFof (had i hi) (va_eqt (nk_1 hgv _ (List.mem_of_getElem? (nc_od i hi)))) hA, vk_OFof (had i hi) (va_eqv (nk_1 hgv _ (List.mem_of_getElem? (nc_wd i hi))) (hK i hi)) hA, vk_OFof (had i hi) (va_eqt (nk_1 hgv _ (List.mem_of_getElem? (nc_td i hi)))) hA⟩, hS, va_Nw.of rfl (hts _ (by decide +kernel))⟩
set_option maxRecDepth 100000 in
theorem ns_is (hgv : (Jvm.Cond.and given_1 narrow_1).before args s = true) (hts : ∀ w ∈ lw_tbl, w.before args s = true) : ∀ is ∈ zIsL, zThE RX8 is s := by
  have go : ∀ (is : Nat) (tx : String), (Cond.stringRef RX8 is tx).before args s = true → (Cond.exactly (Term.string RX8 is) "java/lang/String").before args s = true → zThE RX8 is s := by
    intro is tx h1 h2
    obtain ⟨a, c, cA, kA, q1, -⟩ := Cond.exactly_spec (args := args) (first := s) (o := none) (s := s) (idx := []) (t := Term.string RX8 is) (cls := "java/lang/String") h2
    exact ⟨tx, a, vk_R.of h1 q1⟩
  intro is hi
  simp only [zIsL, List.mem_cons, List.not_mem_nil, or_false] at hi
  rcases hi with rfl | rfl | rfl | rfl | rfl | rfl | rfl | rfl | rfl | rfl | rfl | rfl | rfl | rfl | rfl | rfl | rfl | rfl | rfl | rfl
  · exact go 53 "a game is running, or there are 4 players" (hts _ (by decide +kernel)) (nk_2 hgv _ (List.mem_of_getElem? (i := 121) (by decide +kernel)))
  · exact go 70 "a game is running" (hts _ (by decide +kernel)) (nk_2 hgv _ (List.mem_of_getElem? (i := 166) (by decide +kernel)))
  · exact go 78 "there are no players" (hts _ (by decide +kernel)) (nk_2 hgv _ (List.mem_of_getElem? (i := 187) (by decide +kernel)))
  · exact go 107 "the force is not between 1 and 3" (hts _ (by decide +kernel)) (nk_2 hgv _ (List.mem_of_getElem? (i := 259) (by decide +kernel)))
  · exact go 138 "there is no such rank" (hts _ (by decide +kernel)) (nk_2 hgv _ (List.mem_of_getElem? (i := 295) (by decide +kernel)))
  · exact go 199 "the game would be over" (hts _ (by decide +kernel)) (nk_2 hgv _ (List.mem_of_getElem? (i := 352) (by decide +kernel)))
  · exact go 234 "there is no such kind" (hts _ (by decide +kernel)) (nk_34 hgv _ (List.mem_of_getElem? (i := 4) (by decide +kernel)))
  · exact go 251 "no ball has drained" (hts _ (by decide +kernel)) (nk_34 hgv _ (List.mem_of_getElem? (i := 29) (by decide +kernel)))
  · exact go 277 "the character code is not between 32 and 126" (hts _ (by decide +kernel)) (nk_34 hgv _ (List.mem_of_getElem? (i := 52) (by decide +kernel)))
  · exact go 281 "the script buffer has 60 characters" (hts _ (by decide +kernel)) (nk_34 hgv _ (List.mem_of_getElem? (i := 100) (by decide +kernel)))
  · exact go 298 "the script does not have the required form" (hts _ (by decide +kernel)) (nk_34 hgv _ (List.mem_of_getElem? (i := 139) (by decide +kernel)))
  · exact go 322 "a command of the script failed" (hts _ (by decide +kernel)) (nk_34 hgv _ (List.mem_of_getElem? (i := 185) (by decide +kernel)))
  · exact go 327 "every script had the required form" (hts _ (by decide +kernel)) (nk_34 hgv _ (List.mem_of_getElem? (i := 219) (by decide +kernel)))
  · exact go 329 "no command of a script has failed" (hts _ (by decide +kernel)) (nk_34 hgv _ (List.mem_of_getElem? (i := 257) (by decide +kernel)))
  · exact go 332 "there is nothing to undo" (hts _ (by decide +kernel)) (nk_34 hgv _ (List.mem_of_getElem? (i := 294) (by decide +kernel)))
  · exact go 340 "there is no snapshot" (hts _ (by decide +kernel)) (nk_34 hgv _ (List.mem_of_getElem? (i := 322) (by decide +kernel)))
  · exact go 342 "no game is running" (hts _ (by decide +kernel)) (nk_2 hgv _ (List.mem_of_getElem? (i := 237) (by decide +kernel)))
  · exact go 350 "there is no such index" (hts _ (by decide +kernel)) (nk_2 hgv _ (List.mem_of_getElem? (i := 211) (by decide +kernel)))
  · exact go 353 "there is no such place" (hts _ (by decide +kernel)) (nk_2 hgv _ (List.mem_of_getElem? (i := 378) (by decide +kernel)))
  · exact go 355 "hits is not between 0 and 50" (hts _ (by decide +kernel)) (nk_2 hgv _ (List.mem_of_getElem? (i := 320) (by decide +kernel)))
theorem ns_nc (hgv : (Jvm.Cond.and given_1 narrow_1).before args s = true) : ∀ q ∈ zNcL, va_Nc q.1 q.2 s := by
  intro q hq
  simp only [zNcL, List.mem_cons, List.not_mem_nil, or_false] at hq
  rcases hq with rfl | rfl | rfl | rfl
  · exact va_Nc.of (nk_1 hgv _ (List.mem_of_getElem? (i := 308) (by decide +kernel)))
  · exact va_Nc.of (nk_1 hgv _ (List.mem_of_getElem? (i := 342) (by decide +kernel)))
  · exact va_Nc.of (nk_1 hgv _ (List.mem_of_getElem? (i := 357) (by decide +kernel)))
  · exact va_Nc.of (nk_1 hgv _ (List.mem_of_getElem? (i := 344) (by decide +kernel)))
set_option maxRecDepth 100000 in
theorem ns_B (hts : ∀ w ∈ lw_tbl, w.before args s = true) : ∀ cls ∈ zExL, ∀ w ∈ zB cls, va_Nw w s := by
  intro cls hc w hw
  have ht : w.onTables = true := zB_tab hw
  have hm : ∀ cls ∈ zExL, ∀ w ∈ zB cls, w ∈ lw_tbl := by decide +kernel
  exact va_Nw.of ht (hts w (hm cls hc w hw))
set_option maxRecDepth 100000 in
theorem ns_F (hts : ∀ w ∈ lw_tbl, w.before args s = true) : zOutF s :=
  ⟨va_AO.of (hts _ (by decide +kernel)), va_AO.of (hts _ (by decide +kernel)), va_Nw.of rfl (hts _ (by decide +kernel)), va_Nw.of rfl (hts _ (by decide +kernel)), va_Nw.of rfl (hts _ (by decide +kernel)), va_Nw.of rfl (hts _ (by decide +kernel)), va_Nw.of rfl (hts _ (by decide +kernel)), va_Nw.of rfl (hts _ (by decide +kernel)), va_Nw.of rfl (hts _ (by decide +kernel)), va_Nw.of rfl (hts _ (by decide +kernel)), va_Nw.of rfl (hts _ (by decide +kernel)), va_Nw.of rfl (hts _ (by decide +kernel)), va_Nw.of rfl (hts _ (by decide +kernel)), va_Nw.of rfl (hts _ (by decide +kernel))⟩
theorem ns_E (hgv : (Jvm.Cond.and given_1 narrow_1).before args s = true) (hts : ∀ w ∈ lw_tbl, w.before args s = true) (hA : ∀ a : Nat, a < s.heap.size → ¬ A a) : ∃ ad adK adV : Nat → Nat, zE ad adK adV A s s.heap := by
  obtain ⟨ad, adK, adV, hC⟩ := ns_Cm hgv hts hA
  exact ⟨ad, adK, adV, ns_F hts, ns_St hgv hts hA, hC, ns_Th hgv hts hA, ns_B hts, ns_is hgv hts, ns_nc hgv⟩
end ST
