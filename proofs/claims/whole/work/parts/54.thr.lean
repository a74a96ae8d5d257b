/-! what a method of the class throws: the class by its name, the world as it stands -/
def zNo : Array Value → State → Outcome → State → Prop := fun _ _ _ _ => False
def zX (D : zG) (W' : va_W) (A : Nat → Prop) (E0 : String) : String → State → State → Prop :=
  vx_X (fun (_ : Unit) => True) (fun E _ t => E = E0 ∧ va_P D vwCl W' t.heap ∧ va_D A W') A
def zThE (own : String) (is : Nat) (U : State) : Prop := ∃ (text : String) (sa : Nat), vk_R own is text sa U
/-! a throw whose own constructor passes its text on by another index than the bundle's -/
def zNwX (own : String) (ic : Nat) (X : String) (ix : Nat) (rx : ByteArray) (Y : String) (r : List String) : List Cond :=
  Bundle.throwableAtoms ++ Bundle.throwableSAtoms ++ (Bundle.passSAtoms X Y ix rx ++ Bundle.chainSAtoms Y r) ++
  [.methodLink own ic (Bundle.initS X), .instantiable X 6, .castable X X, .selects X Bundle.tFill0 Bundle.tFill0, .selects X Bundle.tFill Bundle.tFill,
   .lays X Bundle.tN "cause" "Ljava/lang/Throwable;", .lays X Bundle.tN "stackTrace" Bundle.steD, .lays X Bundle.tN "suppressedExceptions" Bundle.listD, .lays X Bundle.tN "detailMessage" "Ljava/lang/String;",
   .isRef (.static Bundle.tN "UNASSIGNED_STACK" Bundle.steD), .isRef (.static Bundle.tN "SUPPRESSED_SENTINEL" Bundle.listD),
   .fieldLink Bundle.tN 198 Bundle.tN "backtrace" "Ljava/lang/Object;", .lays Bundle.tN Bundle.tN "backtrace" "Ljava/lang/Object;", .lays X Bundle.tN "backtrace" "Ljava/lang/Object;"]
set_option maxHeartbeats 1000000 in
theorem z_ctorX {p : Program} {l : Launch} {e : Env} {R : Room} {s : State} {m₀ : MethodId} {args : Array Value} {below : List Frame} {meth : Method} {c : Code} {W : State} {locs : List Loc} {cells slots : Nat} (X : Stand p l e R s m₀ args below meth c W locs cells slots) (hexec : p.tables.exec = Jvm.exec) (htr : e.platform.stackTraces = false) {own cls Y0 : String} {r0 : List String} {ic ix : Nat} {rx : ByteArray}
    (x0 : decode rx 0 = .ok (.aload_n 0, 1)) (x1 : decode rx 1 = .ok (.aload_n 1, 1)) (x2 : decode rx 2 = .ok (.invokespecial ix, 3)) (x5 : decode rx 5 = .ok (.return_, 1))
    (hown : s.vm.findClass own = some m₀.cls) (hcls : Bundle.fit cls = true) (hY : Bundle.fit Y0 = true) (hnames : ∀ n ∈ r0, Bundle.fit n = true)
    (h : ∀ a ∈ zNwX own ic cls ix rx Y0 r0, a.before args s = true)
    {a : Addr} {cX : ClassId} {kX : Class} (hfoundX : s.vm.findClass cls = some cX) (hkX : s.vm.classes[cX]? = some kX) (hcell : W.heap[a]? = some (freshCell cX kX)) (hnew : s.heap.size ≤ a) (hlocs : locs = [])
    {msg : Value} (hmsg : msg.isRef = true)
    {g : JFrame} (hg : g.method = m₀) (hsize : g.locals.size = c.maxLocals) (hlocked : g.locked = none) (hentered : g.entered = []) {rest : List Value} (hstack : g.stack = msg :: .ref a :: .ref a :: rest)
    (hd6 : decode c.code g.pc = .ok (.invokespecial ic, 3)) (hd9 : decode c.code (g.pc + 3) = .ok (.athrow, 1)) (hout : ∀ x ∈ c.exceptionTable.toList, covers x (g.pc + 3) = false)
    (hRframes : r0.length + 4 < R.frames) (hRlocals : 2 * g.monitorRoom + ((Value.ref a :: rest).map fun v => v.category).sum + (13 * (r0.length + 2) + 42) ≤ R.locals) (hlocks : meth.locks = false) :
    ∃ U : State, Steps p.tables e below (W.setTop g) U ∧ U.status = .running ∧ Ended U below (.threw a) ∧ s.WarmedH U.vm ∧ s.sameButNew ({ U with vm := s.vm } : State) [] cells slots ∧
      ∃ ce : Cell, U.heap[a]? = some ce ∧ ce.cls = cX ∧ ce.vm = .none := by
  subst hlocs
  have howns : e.platform.frameOwnsMonitors = true := by rw [X.admits.platform]
  have hfin : e.platform.finalization = false := by rw [X.admits.platform]
  have hpl : e.platform.magicAccessors = ({} : Platform).magicAccessors := by rw [X.admits.platform]
  have a' : ∀ x, x ∈ zNwX own ic cls ix rx Y0 r0 → x.holds args s none s [] = true := fun x hx => h x hx
  obtain ⟨T, Z0, L, -, Y⟩ := ThrowableC.of_atoms (args := args) howns hfin hpl (fun x hx => h x (by simp [zNwX, hx]))
  obtain ⟨Z, M, LZ, LM, hnZ⟩ := Init0T.ofS_atoms (args := args) hpl L Y (fun x hx => h x (by simp [zNwX, hx]))
  obtain ⟨P1, L1, hP1m, hP1s⟩ := PassC.ofS_atoms (args := args) (s := s) hpl (X := cls) (Y := Y0) (Bundle.fit_spec hcls).1 (Bundle.fit_spec hY).2 x0 x1 x2 x5 (fun x hx => h x (by simp [zNwX, hx]))
  obtain ⟨P2, Ps, hlen, L2, hL, hm2, hlink2, hlink⟩ := Bundle.chainS (args := args) hpl hnZ r0 Y0 hY hnames (fun x hx => h x (by simp [zNwX, hx]))
  have hfound : s.vm.findClass cls = some P1.m.cls := findClass_of_methodNamed hP1m
  cases Option.some.inj (hfoundX.symm.trans hfound)
  obtain ⟨c1, kX', hc1, hk, hord, -, -, hn6⟩ := Cond.instantiable_spec (a' (.instantiable cls 6) (by simp [zNwX]))
  cases Option.some.inj (hc1.symm.trans hfound)
  cases Option.some.inj (hkX.symm.trans hk)
  have hsel : ∀ (t : MethodName) (f : MethodId), s.methodNamed? t = some f → t.cls ≠ "java/lang/invoke/MethodHandle" ∧ t.cls ≠ "java/lang/invoke/VarHandle" → Cond.selects cls t t ∈ zNwX own ic cls ix rx Y0 r0 → selectMethod e.platform s.vm P1.m.cls f = .method f := by
    intro t f h1 h2 h3
    obtain ⟨c2, r2, m2, q1, q2, q3, q4, -⟩ := Cond.selects_spec (a' _ h3)
    cases Option.some.inj (q1.symm.trans hfound)
    cases Option.some.inj (q2.symm.trans (State.methodFound?_of_named h1 h2))
    cases Option.some.inj (q3.symm.trans h1)
    rw [Launch.admits_selectMethod X.admits]; exact q4
  have hsel0 := hsel _ _ Y.fill0 (by decide) (by simp [zNwX])
  have hselF := hsel _ _ Y.fill (by decide) (by simp [zNwX])
  obtain ⟨cellS0, hcS0, hiss⟩ := Y.statics
  obtain ⟨u0, hu0⟩ := Cond.staticRefV Y.unassigned L.unassignedStatic L.statics hcS0 hiss (a' (.isRef (.static Bundle.tN "UNASSIGNED_STACK" Bundle.steD)) (by simp [zNwX]))
  obtain ⟨sen, hsen⟩ := Cond.staticRefV Y.sentinel L.sentinelStatic L.statics hcS0 hiss (a' (.isRef (.static Bundle.tN "SUPPRESSED_SENTINEL" Bundle.listD)) (by simp [zNwX]))
  obtain ⟨ci198, i198, fB, hk198, hg198, ha198, hsB, -, hnB, htB, hffB⟩ := Cond.ownField (t := .object "java/lang/Object") Y.found L.cls (by decide +kernel) (a' (.fieldLink Bundle.tN 198 Bundle.tN "backtrace" "Ljava/lang/Object;") (by simp [zNwX])) (a' (.lays Bundle.tN Bundle.tN "backtrace" "Ljava/lang/Object;") (by simp [zNwX])) e.platform hpl
  obtain ⟨cellS, hcellS, heS, -, hkeep⟩ := X.same.2.2.2.2.2 T.aS cellS0 hcS0
  have hknownS : cellS.vm ≠ .unknown := by
    rw [heS]; intro hu
    rw [show cellS0.vm = .unknown from hu] at hiss
    cases hiss
  have hneS : T.aS ≠ a := Nat.ne_of_lt (Nat.lt_of_lt_of_le (Array.getElem?_eq_some_iff.mp hcS0).1 hnew)
  obtain ⟨iM, hffM⟩ := Y.msg
  obtain ⟨tyC, dC, hdC, hdnC⟩ := Cond.laysAt hfound hk Y.cause (a' (.lays cls Bundle.tN "cause" "Ljava/lang/Throwable;") (by simp [zNwX]))
  obtain ⟨tyS, dS, hdS, hdnS⟩ := Cond.laysAt hfound hk Y.stack (a' (.lays cls Bundle.tN "stackTrace" Bundle.steD) (by simp [zNwX]))
  obtain ⟨tyP, dP, hdP, hdnP⟩ := Cond.laysAt hfound hk Y.supp (a' (.lays cls Bundle.tN "suppressedExceptions" Bundle.listD) (by simp [zNwX]))
  obtain ⟨tyM, dM, hdM, hdnM⟩ := Cond.laysAt hfound hk hffM (a' (.lays cls Bundle.tN "detailMessage" "Ljava/lang/String;") (by simp [zNwX]))
  obtain ⟨tyB, dB, hdB, hdnB⟩ := Cond.laysAt hfound hk hffB (a' (.lays cls Bundle.tN "backtrace" "Ljava/lang/Object;") (by simp [zNwX]))
  have bC := Cond.laysApart hdB hdC hdnB hdnC (by rw [hnB, Y.causeName]; decide)
  have bS := Cond.laysApart hdB hdS hdnB hdnS (by rw [hnB, Y.stackName]; decide)
  have bP := Cond.laysApart hdB hdP hdnB hdnP (by rw [hnB, Y.suppName]; decide)
  have hskip : SkipFacts T e.platform s (fun u => u) u0 ((preparedCellV T.toThrowableT (freshCell P1.m.cls kX) a u0 sen).withEntry W.cur) :=
    ⟨{ ci198 := ci198, i198 := i198, fBack := fB }, ⟨hk198, hg198, ha198, hsB⟩, by
      have := fresh_default (c := P1.m.cls) tyB
      rw [htB] at this
      simpa [preparedCellV, Cell.setSlot, Cell.withEntry, Array.getElem?_setIfInBounds, bC, bS, bP, bC.symm, bS.symm, bP.symm, defaultValue] using this, fun _ _ => rfl⟩
  obtain ⟨tm, methC, cdC, kC, vm₁, hnC, -, -, -, -, -, -, -, hW₁, st1⟩ := Steps.initColdS (tb := p.tables) (e := e) (below := below) (s := s) (U := W) X.here hexec X.warmed hpl hown (t := Bundle.initS cls) rfl rfl (Bundle.fit_spec hcls).2
    (a' (.methodLink own ic (Bundle.initS cls)) (by simp [zNwX])) (h (.instanceMethod (Bundle.initS cls)) (by simp [zNwX, Bundle.passSAtoms])) (bytes := rx) (maxL := 2) (h (.code (Bundle.initS cls) rx 2 none) (by simp [zNwX, Bundle.passSAtoms]))
    (f := g) hg (a := a) (msg := msg) (rest := .ref a :: rest) hstack hd6
  cases Option.some.inj (hnC.symm.trans hP1m)
  have X₁ := X.noted hW₁
  have hsup : P1.sup = P2.m := Option.some.inj (hP1s.symm.trans hm2)
  obtain ⟨vm₂, X₂, st2⟩ := X₁.ctorMessageOffV hexec (g := { g with stack := .ref a :: rest }) hg hsize T L Z LZ M LM (P1 :: P2 :: Ps)
    (fun P hP => by
      rcases List.mem_cons.mp hP with rfl | hP
      · exact L1
      · rcases List.mem_cons.mp hP with rfl | hP
        · exact L2
        · exact hL P hP) ⟨hsup, hlink2, hlink⟩ (u0 := u0) (sen := sen) (self := a) hmsg (cell := freshCell P1.m.cls kX) (cellS := cellS)
    hcell (fun _ => by simp) (by simp) rfl rfl hsel0 hselF hcellS hneS hknownS (by rw [hkeep _ (fun hm => nomatch hm)]; exact hu0) (by rw [hkeep _ (fun hm => nomatch hm)]; exact hsen)
    (Takes.of_laid hk hord tyC (by rw [Y.causeType]; rfl)) (Takes.of_laid hk hord tyS (by rw [Y.stackType]; exact fits_refV_array _ u0)) (Takes.of_laid hk hord tyP (by rw [Y.suppType]; exact fits_refV_object _ sen))
    (Takes.of_laid hk hord tyM (by rw [Y.msgType]; exact fits_refV_object _ ⟨msg, hmsg⟩)) Y.objLocals hskip htr [] hd6
    (by simp only [List.length_cons, hlen]; omega) (by simp only [List.length_cons, hlen]; exact hRlocals)
  obtain ⟨hwalk, hrun, hended, hWU, hsame⟩ := X₂.athrowLeaves hexec (g := { g with stack := .ref a :: rest, pc := g.pc + 3 }) hg hlocked hentered hout (a := a) (rest := rest) rfl hd9
  have hlt : a < ((W.setVm vm₁).setVm vm₂).heap.size := (Array.getElem?_eq_some_iff.mp hcell).1
  have hU := heapAt_setCell_self (s := (W.setVm vm₁).setVm vm₂) (plainBareV T.toThrowableT (freshCell P1.m.cls kX) a u0 sen msg) hlt
  refine ⟨_, st1 _ (fun acts => ?_), hrun, hended, hWU, hsame.weaken (fun y hy hlt' => ?_) (Nat.le_refl _) (Nat.le_refl _), _, hU, rfl, rfl⟩
  · rw [doInvoke_state]
    exact st2 _ hwalk
  · exfalso
    have hb : y.base = a := by
      rcases List.mem_append.mp hy with h1 | h1
      · exact nomatch h1
      · simp only [List.mem_cons, List.not_mem_nil, or_false] at h1
        rcases h1 with rfl | rfl | rfl | rfl | rfl <;> rfl
    rw [hb] at hlt'
    exact Nat.not_lt.mpr hnew hlt'
theorem z_thrN {p : Program} {l : Launch} {e : Env} {R : Room} {s : State} {m : MethodId} {args : Array Value} {below : List Frame} {meth : Method} {c : Code} {H : Heap} {locs : List Loc} {cells slots : Nat} {ls : Array Slot} {rest : List Value} {free : Addr → Prop} {Qc : Array Value → State → Outcome → State → Prop} {XC : String → State → State → Prop} {cc : ByteArray} {pc : Nat} (hexec : p.tables.exec = Jvm.exec) (hb : c.code = cc) (hl : l.stackTraces = false) {own cls text Y0 : String} {r0 : List String} {ik is ic ix mc ms sa : Nat} {rx : ByteArray} {A : Nat → Prop}
    (x0 : decode rx 0 = .ok (.aload_n 0, 1)) (x1 : decode rx 1 = .ok (.aload_n 1, 1)) (x2 : decode rx 2 = .ok (.invokespecial ix, 3)) (x5 : decode rx 5 = .ok (.return_, 1))
    (hown : s.vm.findClass own = some m.cls) (hcls : Bundle.fit cls = true) (hY : Bundle.fit Y0 = true) (hnames : ∀ n ∈ r0, Bundle.fit n = true)
    (hk : (Cond.classLink own ik cls).before args s = true) (hini : (Cond.initialized cls).before args s = true) (hstr : vk_R own is text sa s) (hat : ∀ w ∈ (zNwX own ic cls ix rx Y0 r0).filter vx_no, w.before args s = true)
    (hgood : ∀ w ∈ Cond.classLink own ik cls :: Cond.initialized cls :: (zNwX own ic cls ix rx Y0 r0).filter vx_no, vx_ot w = true)
    (hU : vx_Zq Bundle.tN "UNASSIGNED_STACK" Bundle.steD A s s.heap) (hN : vx_Zq Bundle.tN "SUPPRESSED_SENTINEL" Bundle.listD A s s.heap) (hS : va_S A s.heap H locs) (hsize : ls.size = c.maxLocals)
    (d0 : decode cc pc = .ok (.new ik, 3)) (d3 : decode cc (pc + 3) = .ok (.dup, 1)) (d4 : decode cc (pc + 4) = .ok (.ldc is, 2)) (d6 : decode cc (pc + 6) = .ok (.invokespecial ic, 3)) (d9 : decode cc (pc + 9) = .ok (.athrow, 1))
    (hout : ∀ x ∈ c.exceptionTable.toList, covers x (pc + 9) = false)
    (hRframes : r0.length + 4 < R.frames) (hRlocals : (rest.map fun v => v.category).sum + (13 * (r0.length + 2) + 43) ≤ R.locals) (hRcells : cells + 1 ≤ R.cells) (hRslots : slots + 6 ≤ R.slots) (hlocks : meth.locks = false)
    (hx : ∀ t : State, s.vm.Alike t.vm → H.size ≤ t.heap.size → (∀ q : Nat, q < H.size → t.heap[q]? = H[q]?) → XC cls s t)
    (hf : ∀ z ∈ locs, free z.base) (hc : cells + 1 ≤ mc) (hs : slots + 6 ≤ ms) :
    W p l e R s m args below meth c H locs cells slots (vx_MQ below Qc XC args s mc ms free) (F0 m pc ls rest) := by
  intro T hT X
  have htr : e.platform.stackTraces = false := (show e.platform.stackTraces = l.stackTraces by rw [X.admits.platform]).trans hl
  have Y := vx_rebase X (R' := { frames := R.frames, locals := R.locals, cells := 1, slots := 6 }) (Nat.le_refl _) (Nat.le_refl _) hRcells hRslots
  obtain ⟨s', hA⟩ : ∃ z, z = (T.setVm s.vm).setFrames (.invoking m args :: below) := ⟨_, rfl⟩
  rw [← hA] at Y
  have hvm : s'.vm = s.vm := by rw [hA]; rfl
  have hhp : s'.heap = H := by rw [hA]; exact hT
  have hW0 : s.WarmedH s'.vm := by rw [hvm]; exact State.WarmedH.refl s
  have go : ∀ w, vx_ot w = true → w.before args s = true → w.before args s' = true := fun w g h => vx_ot_at hW0 hvm.symm g h
  have hU' : vx_Zq Bundle.tN "UNASSIGNED_STACK" Bundle.steD A s' s'.heap := by rw [hhp]; exact vx_Zq.moved hW0.alike (hU.kept hS.2.1)
  have hN' : vx_Zq Bundle.tN "SUPPRESSED_SENTINEL" Bundle.listD A s' s'.heap := by rw [hhp]; exact vx_Zq.moved hW0.alike (hN.kept hS.2.1)
  have h : ∀ w ∈ zNwX own ic cls ix rx Y0 r0, w.before args s' = true := vx_own (fun w hw => go w (hgood w (List.mem_cons_of_mem _ (List.mem_cons_of_mem _ hw))) (hat w hw)) (vx_isRefq hU'.1) (vx_isRefq hN'.1) hU'.2.word hN'.2.word
  have hown' : s'.vm.findClass own = some m.cls := by rw [hvm]; exact hown
  obtain ⟨vm₁, cX, kX, hfX, hkX, -, -, X₁, st1⟩ := Y.newCold hexec (own := own) (C := cls) (index := ik) (n := 6) hown' (go _ (hgood _ List.mem_cons_self) hk) (h _ (by simp [zNwX])) (go _ (hgood _ (List.mem_cons_of_mem _ List.mem_cons_self)) hini)
    (g := F0 m pc ls rest) rfl (by rw [hb]; exact d0) (Nat.le_refl _) (Nat.le_refl _)
  generalize hT1 : (T.setVm vm₁).pushCell { cls := cX, slots := kX.instanceTypes.map defaultValue, vm := .none } = T1 at X₁ st1
  have hcat : (Value.ref T.heap.size).category = 1 := rfl
  have hcellA : T1.heap[T.heap.size]? = some (freshCell cX kX) := by rw [← hT1]; exact State.heap_pushCell_size _ _
  have d3' : decode c.code (pc + 3) = .ok (.dup, 1) := by rw [hb]; exact d3
  have d4' : decode c.code (pc + 4) = .ok (.ldc is, 2) := by rw [hb]; exact d4
  have hstr' : vk_R own is text sa s' := vk_R.warm hW0 hstr
  obtain ⟨U, hsteps, hrun, hend, hW, hsame, ce, hce, hcc, hcv⟩ := z_ctorX X₁ hexec htr (own := own) (cls := cls) (ic := ic) x0 x1 x2 x5 hown' hcls hY hnames h hfX hkX hcellA (by rw [hhp, hT]; exact Nat.le_refl _) rfl (msg := .ref sa) rfl
    (g := { method := m, pc := pc + 6, locals := ls, stack := .ref sa :: .ref T.heap.size :: .ref T.heap.size :: rest, locked := none }) rfl hsize rfl rfl (rest := rest) rfl
    (by rw [hb]; exact d6) (by rw [hb]; exact d9) hout hRframes (by simp only [List.map_cons, List.sum_cons, hcat]; omega) hlocks
  obtain ⟨f1, f2⟩ := vx_frame hsame
  rw [hhp] at f1 f2
  have hWs : s.WarmedH U.vm := State.WarmedH.trans hW0 hW
  have hcl : s.vm.findClass cls = some ce.cls := by
    rw [hvm] at hfX
    rw [hfX, hcc]
  have hall : s.sameButNew ({ U with vm := s.vm } : State) locs mc ms := by
    subst hA
    obtain ⟨e1, e2⟩ := hsame
    rw [State.setFrames_setFrames] at e1
    have h2 : (T.setVm s.vm).sameButNew ({ U with vm := s.vm } : State) [] (0 + 1) (0 + 6) := ⟨e1, e2⟩
    have h3 := X.same.trans h2
    rw [List.append_nil] at h3
    exact h3.mono hc hs
  refine ⟨U, ?_, .threw T.heap.size, hrun, hend, Or.inr ⟨T.heap.size, rfl, cls, ce, locs, hx U hWs.alike f1 (fun q hq => f2 q hq (fun z hz => nomatch hz)), hce, hcv, hcl, hWs, hall, hf⟩⟩
  refine st1 _ ?_
  show Steps p.tables e below (T1.setTop { method := m, pc := pc + 3, locals := ls, stack := .ref T.heap.size :: rest, locked := none }) _
  jvm_step X₁.here [X₁.here.top, hexec, d3', Value.category]
  exact X₁.ldcString hexec (own := own) (text := text) (index := is) (a := sa) hown' hstr'.1 hstr'.2
    (g := { method := m, pc := pc + 4, locals := ls, stack := .ref T.heap.size :: .ref T.heap.size :: rest, locked := none }) rfl d4' _ hsteps
theorem z_thrNW {p : Program} {l : Launch} {e : Env} {R : Room} {s : State} {m : MethodId} {args : Array Value} {below : List Frame} {meth : Method} {c : Code} {H : Heap} {locs : List Loc} {cells slots : Nat} {ls : Array Slot} {rest : List Value} {free : Addr → Prop} {Qc : Array Value → State → Outcome → State → Prop} {XC : String → State → State → Prop} {cc : ByteArray} {pc : Nat} (hexec : p.tables.exec = Jvm.exec) (hb : c.code = cc) (hl : l.stackTraces = false) {own cls text Y0 : String} {r0 : List String} {ik is ic ix mc ms sa : Nat} {rx : ByteArray} {A : Nat → Prop}
    (x0 : decode rx 0 = .ok (.aload_n 0, 1)) (x1 : decode rx 1 = .ok (.aload_n 1, 1)) (x2 : decode rx 2 = .ok (.invokespecial ix, 3)) (x5 : decode rx 5 = .ok (.return_, 1))
    (hown : s.vm.findClass own = some m.cls) (hcls : Bundle.fit cls = true) (hY : Bundle.fit Y0 = true) (hnames : ∀ n ∈ r0, Bundle.fit n = true)
    (hk : (Cond.classLink own ik cls).before args s = true) (hini : (Cond.initialized cls).before args s = true) (hstr : vk_R own is text sa s) (hat : ∀ w ∈ (zNwX own ic cls ix rx Y0 r0).filter vx_no, w.before args s = true)
    (hgood : ∀ w ∈ Cond.classLink own ik cls :: Cond.initialized cls :: (zNwX own ic cls ix rx Y0 r0).filter vx_no, vx_ot w = true)
    (hU : vx_Zq Bundle.tN "UNASSIGNED_STACK" Bundle.steD A s s.heap) (hN : vx_Zq Bundle.tN "SUPPRESSED_SENTINEL" Bundle.listD A s s.heap) (hS : va_S A s.heap H locs) (hsize : ls.size = c.maxLocals)
    (d0 : decode cc pc = .ok (.new ik, 3)) (d3 : decode cc (pc + 3) = .ok (.dup, 1)) (d4 : decode cc (pc + 4) = .ok (.ldc_w is, 3)) (d6 : decode cc (pc + 7) = .ok (.invokespecial ic, 3)) (d9 : decode cc (pc + 10) = .ok (.athrow, 1))
    (hout : ∀ x ∈ c.exceptionTable.toList, covers x (pc + 10) = false)
    (hRframes : r0.length + 4 < R.frames) (hRlocals : (rest.map fun v => v.category).sum + (13 * (r0.length + 2) + 43) ≤ R.locals) (hRcells : cells + 1 ≤ R.cells) (hRslots : slots + 6 ≤ R.slots) (hlocks : meth.locks = false)
    (hx : ∀ t : State, s.vm.Alike t.vm → H.size ≤ t.heap.size → (∀ q : Nat, q < H.size → t.heap[q]? = H[q]?) → XC cls s t)
    (hf : ∀ z ∈ locs, free z.base) (hc : cells + 1 ≤ mc) (hs : slots + 6 ≤ ms) :
    W p l e R s m args below meth c H locs cells slots (vx_MQ below Qc XC args s mc ms free) (F0 m pc ls rest) := by
  intro T hT X
  have htr : e.platform.stackTraces = false := (show e.platform.stackTraces = l.stackTraces by rw [X.admits.platform]).trans hl
  have Y := vx_rebase X (R' := { frames := R.frames, locals := R.locals, cells := 1, slots := 6 }) (Nat.le_refl _) (Nat.le_refl _) hRcells hRslots
  obtain ⟨s', hA⟩ : ∃ z, z = (T.setVm s.vm).setFrames (.invoking m args :: below) := ⟨_, rfl⟩
  rw [← hA] at Y
  have hvm : s'.vm = s.vm := by rw [hA]; rfl
  have hhp : s'.heap = H := by rw [hA]; exact hT
  have hW0 : s.WarmedH s'.vm := by rw [hvm]; exact State.WarmedH.refl s
  have go : ∀ w, vx_ot w = true → w.before args s = true → w.before args s' = true := fun w g h => vx_ot_at hW0 hvm.symm g h
  have hU' : vx_Zq Bundle.tN "UNASSIGNED_STACK" Bundle.steD A s' s'.heap := by rw [hhp]; exact vx_Zq.moved hW0.alike (hU.kept hS.2.1)
  have hN' : vx_Zq Bundle.tN "SUPPRESSED_SENTINEL" Bundle.listD A s' s'.heap := by rw [hhp]; exact vx_Zq.moved hW0.alike (hN.kept hS.2.1)
  have h : ∀ w ∈ zNwX own ic cls ix rx Y0 r0, w.before args s' = true := vx_own (fun w hw => go w (hgood w (List.mem_cons_of_mem _ (List.mem_cons_of_mem _ hw))) (hat w hw)) (vx_isRefq hU'.1) (vx_isRefq hN'.1) hU'.2.word hN'.2.word
  have hown' : s'.vm.findClass own = some m.cls := by rw [hvm]; exact hown
  obtain ⟨vm₁, cX, kX, hfX, hkX, -, -, X₁, st1⟩ := Y.newCold hexec (own := own) (C := cls) (index := ik) (n := 6) hown' (go _ (hgood _ List.mem_cons_self) hk) (h _ (by simp [zNwX])) (go _ (hgood _ (List.mem_cons_of_mem _ List.mem_cons_self)) hini)
    (g := F0 m pc ls rest) rfl (by rw [hb]; exact d0) (Nat.le_refl _) (Nat.le_refl _)
  generalize hT1 : (T.setVm vm₁).pushCell { cls := cX, slots := kX.instanceTypes.map defaultValue, vm := .none } = T1 at X₁ st1
  have hcat : (Value.ref T.heap.size).category = 1 := rfl
  have hcellA : T1.heap[T.heap.size]? = some (freshCell cX kX) := by rw [← hT1]; exact State.heap_pushCell_size _ _
  have d3' : decode c.code (pc + 3) = .ok (.dup, 1) := by rw [hb]; exact d3
  have d4' : decode c.code (pc + 4) = .ok (.ldc_w is, 3) := by rw [hb]; exact d4
  have hstr' : vk_R own is text sa s' := vk_R.warm hW0 hstr
  obtain ⟨U, hsteps, hrun, hend, hW, hsame, ce, hce, hcc, hcv⟩ := z_ctorX X₁ hexec htr (own := own) (cls := cls) (ic := ic) x0 x1 x2 x5 hown' hcls hY hnames h hfX hkX hcellA (by rw [hhp, hT]; exact Nat.le_refl _) rfl (msg := .ref sa) rfl
    (g := { method := m, pc := pc + 7, locals := ls, stack := .ref sa :: .ref T.heap.size :: .ref T.heap.size :: rest, locked := none }) rfl hsize rfl rfl (rest := rest) rfl
    (by rw [hb]; exact d6) (by rw [hb]; exact d9) hout hRframes (by simp only [List.map_cons, List.sum_cons, hcat]; omega) hlocks
  obtain ⟨f1, f2⟩ := vx_frame hsame
  rw [hhp] at f1 f2
  have hWs : s.WarmedH U.vm := State.WarmedH.trans hW0 hW
  have hcl : s.vm.findClass cls = some ce.cls := by
    rw [hvm] at hfX
    rw [hfX, hcc]
  have hall : s.sameButNew ({ U with vm := s.vm } : State) locs mc ms := by
    subst hA
    obtain ⟨e1, e2⟩ := hsame
    rw [State.setFrames_setFrames] at e1
    have h2 : (T.setVm s.vm).sameButNew ({ U with vm := s.vm } : State) [] (0 + 1) (0 + 6) := ⟨e1, e2⟩
    have h3 := X.same.trans h2
    rw [List.append_nil] at h3
    exact h3.mono hc hs
  refine ⟨U, ?_, .threw T.heap.size, hrun, hend, Or.inr ⟨T.heap.size, rfl, cls, ce, locs, hx U hWs.alike f1 (fun q hq => f2 q hq (fun z hz => nomatch hz)), hce, hcv, hcl, hWs, hall, hf⟩⟩
  refine st1 _ ?_
  show Steps p.tables e below (T1.setTop { method := m, pc := pc + 3, locals := ls, stack := .ref T.heap.size :: rest, locked := none }) _
  jvm_step X₁.here [X₁.here.top, hexec, d3', Value.category]
  exact X₁.ldcStringW hexec (own := own) (text := text) (index := is) (a := sa) hown' hstr'.1 hstr'.2
    (g := { method := m, pc := pc + 4, locals := ls, stack := .ref T.heap.size :: .ref T.heap.size :: rest, locked := none }) rfl d4' _ hsteps
/-- the words of a throw that a warmed state keeps by lemmas of their own -/
def zB (cls : String) : List Cond := [.declares (Bundle.initS "java/lang/RuntimeException"), .declares (Bundle.initS "java/lang/Exception"), .declares (Bundle.initS Bundle.tN), .castable cls cls]
theorem zB_warm {cls : String} {s U : State} (hW : s.WarmedH U.vm) (h : ∀ w ∈ zB cls, va_Nw w s) : ∀ w ∈ zB cls, va_Nw w U := by
  intro w hw
  have g := h w hw
  simp only [zB, List.mem_cons, List.not_mem_nil, or_false] at hw
  rcases hw with rfl | rfl | rfl | rfl
  · exact va_Nw.warmD hW g
  · exact va_Nw.warmD hW g
  · exact va_Nw.warmD hW g
  · exact va_Nw.warmC hW g
theorem zB_tab {cls : String} {w : Cond} (hw : w ∈ zB cls) : w.onTables = true := by
  simp only [zB, List.mem_cons, List.not_mem_nil, or_false] at hw
  rcases hw with rfl | rfl | rfl | rfl <;> rfl
theorem zB_same {cls : String} {s U : State} (hv : s.vm = U.vm) (h : ∀ w ∈ zB cls, va_Nw w s) : ∀ w ∈ zB cls, va_Nw w U := fun w hw => va_Nw.same (zB_tab hw) hv (h w hw)
/-- the class and the words of its throw -/
def zThW (own : String) (ik : Nat) (cls : String) (L : List Cond) : Prop :=
  Bundle.fit cls = true ∧ Cond.classLink own ik cls ∈ zw ∧ Cond.initialized cls ∈ zw ∧ (∀ w ∈ L, w ∈ zw ∨ w ∈ zB cls)
def zThS (A : Nat → Prop) (U : State) (H : Heap) : Prop := vx_Zq Bundle.tN "UNASSIGNED_STACK" Bundle.steD A U H ∧ vx_Zq Bundle.tN "SUPPRESSED_SENTINEL" Bundle.listD A U H
def zRT : List String := ["java/lang/RuntimeException", "java/lang/Exception"]
theorem zRT_fit : ∀ n ∈ zRT, Bundle.fit n = true := by decide +kernel
theorem zThW_of {own : String} {ik : Nat} {cls : String} {L : List Cond} (h1 : Bundle.fit cls = true) (h3 : Cond.classLink own ik cls ∈ zw) (h4 : Cond.initialized cls ∈ zw) (h5 : L.all (fun w => (decide (w ∈ zB cls)) || (decide (w ∈ lw_tbl) && goodWord w)) = true) : zThW own ik cls L :=
  ⟨h1, h3, h4, fun w h => by
    have g := List.all_eq_true.mp h5 w h
    simp only [Bool.or_eq_true, Bool.and_eq_true, decide_eq_true_eq] at g
    rcases g with g | ⟨g1, g2⟩
    · exact Or.inr g
    · exact Or.inl (List.mem_filter.mpr ⟨g1, g2⟩)⟩
theorem zThW.hat {own : String} {ik : Nat} {cls : String} {L : List Cond} (h : zThW own ik cls L) {args : Array Value} {s : State} (ts : ∀ w ∈ zw, w.before args s = true) (hB : ∀ w ∈ zB cls, va_Nw w s) : ∀ w ∈ L, w.before args s = true := fun w hw => by
  rcases h.2.2.2 w hw with g | g
  · exact ts w g
  · exact va_Nw.use (zB_tab g) (hB w g)
theorem zThW.good {own : String} {ik : Nat} {cls : String} {L : List Cond} (h : zThW own ik cls L) : ∀ w ∈ Cond.classLink own ik cls :: Cond.initialized cls :: L, vx_ot w = true := by
  intro w hw
  have hz : w ∈ zw ∨ w ∈ zB cls := by
    rcases List.mem_cons.mp hw with rfl | hw
    · exact Or.inl h.2.1
    · rcases List.mem_cons.mp hw with rfl | hw
      · exact Or.inl h.2.2.1
      · exact h.2.2.2 w hw
  simp only [vx_ot, Bool.or_eq_true]
  rcases hz with g | g
  · exact Or.inr (zw_good w g)
  · exact Or.inl (zB_tab g)
section ZX
variable {p : Program} {l : Launch} {e : Env} {R : Room} {s : State} {m : MethodId} {args : Array Value} {below : List Frame} {meth : Method} {c : Code} {H : Heap} {locs : List Loc} {cells slots : Nat} {Q : State → Prop}
variable {cc : ByteArray} {own : String} {nL : Nat} {D : zG} {cy : Nat → ClassId} {E : zEn} {A : Nat → Prop} {wv : va_W} {pc : Nat} {ls : Array Slot} {rest st0 : List Value}
theorem zX.of {W' : va_W} {E0 : String} {t : State} (hP : va_P D vwCl W' H) (hD : va_D A W') (hS : va_S A s.heap H locs) (ht : t.heap = H) : zX D W' A E0 E0 s t := ⟨(), trivial, ⟨rfl, by rw [ht]; exact hP, hD⟩, hS.F ht⟩
theorem z_ofx {y : MethodName} {b : ByteArray} {r : Option FieldType} {rm : Room} {av : List Value} {wv : va_W} {XC : (Nat → Prop) → String → State → State → Prop} {mc ms : Nat} {sz : Nat} (hy : plainName y.cls = true) (hn : (lg_sl av).length ≤ nL) {lv : List (Nat × Value)} (hlv : lv_args 0 av = lv)
    (body : ∀ (p : Program) (e : Env) (s : State) (m : MethodId) (below : List Frame) (meth : Method) (c : Code) (A : Nat → Prop) (ls : Array Slot), zC p s m av.toArray meth c b y.cls nL D cy → (∀ x ∈ c.exceptionTable.toList, False) → (∀ q, s.heap.size ≤ q → A q) → va_P D vwCl wv s.heap → va_D A wv → va_S A s.heap s.heap [] → E A s s.heap → lv_has ls nL lv →
      W p l e rm s m av.toArray below meth c s.heap [] 0 0 (vx_MQ below zNo (XC A) av.toArray s mc ms A) (F0 m 0 ls [])) : vx_Met l y (zws y b nL r) rm (zPre E D cy av wv sz) zNo (XC (va_A wv sz)) mc ms (va_A wv sz) := by
  refine vx_ofW (cc := b) (maxL := nL) (ret := r) hy rfl ?_
  intro p e s m args below meth c s₁ B hml ht hv
  obtain ⟨rfl, hsz, hP, hK, hD0, hE0⟩ := hv
  subst hsz
  have hts := atoms_spec (ws := zws y b nL r) B.pre
  have hl := lv_entry av (n := nL) hn
  rw [lg_entry_eq]
  rw [hlv] at hl
  exact body p e s m below meth c (va_A wv s.heap.size) _ ⟨B.exec, B.bytes, hml, findClass_of_methodNamed B.named, fun w h => hts w (List.mem_cons_of_mem _ h), hK, B.notSynchronized⟩ ht (fun q h => Or.inr h) hP hD0.self va_S.rf hE0 hl
/-- it goes on to the caller -/
theorem z_outx {E0 : String} {ce : Cell} {q : Addr} {mc ms : Nat} (C : zC p s m args meth c cc own nL D cy) (hT : ∀ x ∈ c.exceptionTable.toList, False) (hP : va_P D vwCl wv H) (hD : va_D A wv) (hS : va_S A s.heap H locs) (hcell : H[q]? = some ce) (hv : ce.vm = .none) (hcl : s.vm.findClass E0 = some ce.cls) (hc : cells ≤ mc) (hs : slots ≤ ms) :
    vx_W p l e R s m args below meth c H locs cells slots (vx_MQ below zNo (zX D wv A E0) args s mc ms A) (F0 m pc ls rest) q :=
  vx_out (fun x hx => (hT x hx).elim) C.lk hcell hv hcl (fun t ht _ => zX.of hP hD hS ht) hS.2.2 hc hs
theorem z_throw {cls : String} {ik is ic mc ms : Nat} (C : zC p s m args meth c cc own nL D cy) (hT : ∀ x ∈ c.exceptionTable.toList, False) (hl0 : l.stackTraces = false) (hw : zThW own ik cls (vx_atS own ic cls zRT)) (hts : zThS A s s.heap) (hB : ∀ w ∈ zB cls, va_Nw w s) (hstr : zThE own is s) (hP : va_P D vwCl wv H) (hD : va_D A wv) (hS : va_S A s.heap H locs) (hlen : ls.size = nL)
    (d0 : decode cc pc = .ok (.new ik, 3)) (d3 : decode cc (pc + 3) = .ok (.dup, 1)) (d4 : decode cc (pc + 4) = .ok (.ldc is, 2)) (d6 : decode cc (pc + 6) = .ok (.invokespecial ic, 3)) (d9 : decode cc (pc + 9) = .ok (.athrow, 1))
    (hR : 5 < R.frames ∧ (rest.map fun v => v.category).sum + 82 ≤ R.locals) (hc : cells + 1 ≤ R.cells ∧ slots + 6 ≤ R.slots) (hm : cells + 1 ≤ mc ∧ slots + 6 ≤ ms) :
    W p l e R s m args below meth c H locs cells slots (vx_MQ below zNo (zX D wv A cls) args s mc ms A) (F0 m pc ls rest) := by
  obtain ⟨text, sa, hsa⟩ := hstr
  refine vx_throwS (names := zRT) C.x C.b hl0 C.o hw.1 zRT_fit (C.ts _ hw.2.1) (C.ts _ hw.2.2.1) hsa (hw.hat C.ts hB) hw.good hts.1 hts.2 hS (hlen.trans C.2.2.1.symm) d0 d3 d4 d6 d9 (fun x hx => (hT x hx).elim) hR.1 hR.2 hc.1 hc.2 C.lk ?_ hS.2.2 hm.1 hm.2
  intro t _ hsz hk
  have hP' : va_P D vwCl wv t.heap := hP.kept (fun k q hq => hk q.1 (va_at.lt (hP k q hq)))
  exact ⟨(), trivial, ⟨rfl, hP', hD⟩, Nat.le_trans hS.1 hsz, fun q h1 h2 => (hk q (Nat.lt_of_lt_of_le h1 hS.1)).trans (hS.2.1 q h1 h2)⟩
theorem z_throw' {T : Type} {val : T} (o : T) {w' : T → va_W} {cls : String} {ik is ic mc ms : Nat} (hx : val = o) (hw' : wv = w' o) (C : zC p s m args meth c cc own nL D cy) (hT : ∀ x ∈ c.exceptionTable.toList, False) (hl0 : l.stackTraces = false) (hw : zThW own ik cls (vx_atS own ic cls zRT)) (hts : zThS A s s.heap) (hB : ∀ w ∈ zB cls, va_Nw w s) (hstr : zThE own is s) (hP : va_P D vwCl wv H) (hD : va_D A wv) (hS : va_S A s.heap H locs) (hlen : ls.size = nL)
    (d0 : decode cc pc = .ok (.new ik, 3)) (d3 : decode cc (pc + 3) = .ok (.dup, 1)) (d4 : decode cc (pc + 4) = .ok (.ldc is, 2)) (d6 : decode cc (pc + 6) = .ok (.invokespecial ic, 3)) (d9 : decode cc (pc + 9) = .ok (.athrow, 1))
    (hR : 5 < R.frames ∧ (rest.map fun v => v.category).sum + 82 ≤ R.locals) (hc : cells + 1 ≤ R.cells ∧ slots + 6 ≤ R.slots) (hm : cells + 1 ≤ mc ∧ slots + 6 ≤ ms) :
    W p l e R s m args below meth c H locs cells slots (vx_MQ below zNo (zX D (w' val) A cls) args s mc ms A) (F0 m pc ls rest) := by
  subst hx
  rw [← hw']
  exact z_throw C hT hl0 hw hts hB hstr hP hD hS hlen d0 d3 d4 d6 d9 hR hc hm
theorem z_throwW {cls : String} {ik is ic mc ms : Nat} (C : zC p s m args meth c cc own nL D cy) (hT : ∀ x ∈ c.exceptionTable.toList, False) (hl0 : l.stackTraces = false) (hw : zThW own ik cls (vx_atS own ic cls zRT)) (hts : zThS A s s.heap) (hB : ∀ w ∈ zB cls, va_Nw w s) (hstr : zThE own is s) (hP : va_P D vwCl wv H) (hD : va_D A wv) (hS : va_S A s.heap H locs) (hlen : ls.size = nL)
    (d0 : decode cc pc = .ok (.new ik, 3)) (d3 : decode cc (pc + 3) = .ok (.dup, 1)) (d4 : decode cc (pc + 4) = .ok (.ldc_w is, 3)) (d6 : decode cc (pc + 7) = .ok (.invokespecial ic, 3)) (d9 : decode cc (pc + 10) = .ok (.athrow, 1))
    (hR : 5 < R.frames ∧ (rest.map fun v => v.category).sum + 82 ≤ R.locals) (hc : cells + 1 ≤ R.cells ∧ slots + 6 ≤ R.slots) (hm : cells + 1 ≤ mc ∧ slots + 6 ≤ ms) :
    W p l e R s m args below meth c H locs cells slots (vx_MQ below zNo (zX D wv A cls) args s mc ms A) (F0 m pc ls rest) := by
  obtain ⟨text, sa, hsa⟩ := hstr
  refine vx_throwSW (names := zRT) C.x C.b hl0 C.o hw.1 zRT_fit (C.ts _ hw.2.1) (C.ts _ hw.2.2.1) hsa (hw.hat C.ts hB) hw.good hts.1 hts.2 hS (hlen.trans C.2.2.1.symm) d0 d3 d4 d6 d9 (fun x hx => (hT x hx).elim) hR.1 hR.2 hc.1 hc.2 C.lk ?_ hS.2.2 hm.1 hm.2
  intro t _ hsz hk
  have hP' : va_P D vwCl wv t.heap := hP.kept (fun k q hq => hk q.1 (va_at.lt (hP k q hq)))
  exact ⟨(), trivial, ⟨rfl, hP', hD⟩, Nat.le_trans hS.1 hsz, fun q h1 h2 => (hk q (Nat.lt_of_lt_of_le h1 hS.1)).trans (hS.2.1 q h1 h2)⟩
theorem z_throwW' {T : Type} {val : T} (o : T) {w' : T → va_W} {cls : String} {ik is ic mc ms : Nat} (hx : val = o) (hw' : wv = w' o) (C : zC p s m args meth c cc own nL D cy) (hT : ∀ x ∈ c.exceptionTable.toList, False) (hl0 : l.stackTraces = false) (hw : zThW own ik cls (vx_atS own ic cls zRT)) (hts : zThS A s s.heap) (hB : ∀ w ∈ zB cls, va_Nw w s) (hstr : zThE own is s) (hP : va_P D vwCl wv H) (hD : va_D A wv) (hS : va_S A s.heap H locs) (hlen : ls.size = nL)
    (d0 : decode cc pc = .ok (.new ik, 3)) (d3 : decode cc (pc + 3) = .ok (.dup, 1)) (d4 : decode cc (pc + 4) = .ok (.ldc_w is, 3)) (d6 : decode cc (pc + 7) = .ok (.invokespecial ic, 3)) (d9 : decode cc (pc + 10) = .ok (.athrow, 1))
    (hR : 5 < R.frames ∧ (rest.map fun v => v.category).sum + 82 ≤ R.locals) (hc : cells + 1 ≤ R.cells ∧ slots + 6 ≤ R.slots) (hm : cells + 1 ≤ mc ∧ slots + 6 ≤ ms) :
    W p l e R s m args below meth c H locs cells slots (vx_MQ below zNo (zX D (w' val) A cls) args s mc ms A) (F0 m pc ls rest) := by
  subst hx
  rw [← hw']
  exact z_throwW C hT hl0 hw hts hB hstr hP hD hS hlen d0 d3 d4 d6 d9 hR hc hm
theorem z_throwN {cls : String} {ik is ic ix mc ms : Nat} {rx : ByteArray} (C : zC p s m args meth c cc own nL D cy) (hT : ∀ x ∈ c.exceptionTable.toList, False) (hl0 : l.stackTraces = false) (hx4 : decode rx 0 = .ok (.aload_n 0, 1) ∧ decode rx 1 = .ok (.aload_n 1, 1) ∧ decode rx 2 = .ok (.invokespecial ix, 3) ∧ decode rx 5 = .ok (.return_, 1)) (hw : zThW own ik cls ((zNwX own ic cls ix rx "java/lang/RuntimeException" ["java/lang/Exception"]).filter vx_no)) (hts : zThS A s s.heap) (hB : ∀ w ∈ zB cls, va_Nw w s) (hstr : zThE own is s) (hP : va_P D vwCl wv H) (hD : va_D A wv) (hS : va_S A s.heap H locs) (hlen : ls.size = nL)
    (d0 : decode cc pc = .ok (.new ik, 3)) (d3 : decode cc (pc + 3) = .ok (.dup, 1)) (d4 : decode cc (pc + 4) = .ok (.ldc is, 2)) (d6 : decode cc (pc + 6) = .ok (.invokespecial ic, 3)) (d9 : decode cc (pc + 9) = .ok (.athrow, 1))
    (hR : 5 < R.frames ∧ (rest.map fun v => v.category).sum + 82 ≤ R.locals) (hc : cells + 1 ≤ R.cells ∧ slots + 6 ≤ R.slots) (hm : cells + 1 ≤ mc ∧ slots + 6 ≤ ms) :
    W p l e R s m args below meth c H locs cells slots (vx_MQ below zNo (zX D wv A cls) args s mc ms A) (F0 m pc ls rest) := by
  obtain ⟨text, sa, hsa⟩ := hstr
  refine z_thrN (Y0 := "java/lang/RuntimeException") (r0 := ["java/lang/Exception"]) C.x C.b hl0 hx4.1 hx4.2.1 hx4.2.2.1 hx4.2.2.2 C.o hw.1 (by decide +kernel) (by decide +kernel) (C.ts _ hw.2.1) (C.ts _ hw.2.2.1) hsa (hw.hat C.ts hB) hw.good hts.1 hts.2 hS (hlen.trans C.2.2.1.symm) d0 d3 d4 d6 d9 (fun x hx => (hT x hx).elim) hR.1 hR.2 hc.1 hc.2 C.lk ?_ hS.2.2 hm.1 hm.2
  intro t _ hsz hk
  have hP' : va_P D vwCl wv t.heap := hP.kept (fun k q hq => hk q.1 (va_at.lt (hP k q hq)))
  exact ⟨(), trivial, ⟨rfl, hP', hD⟩, Nat.le_trans hS.1 hsz, fun q h1 h2 => (hk q (Nat.lt_of_lt_of_le h1 hS.1)).trans (hS.2.1 q h1 h2)⟩
theorem z_throwN' {T : Type} {val : T} (o : T) {w' : T → va_W} {cls : String} {ik is ic ix mc ms : Nat} {rx : ByteArray} (hx : val = o) (hw' : wv = w' o) (C : zC p s m args meth c cc own nL D cy) (hT : ∀ x ∈ c.exceptionTable.toList, False) (hl0 : l.stackTraces = false) (hx4 : decode rx 0 = .ok (.aload_n 0, 1) ∧ decode rx 1 = .ok (.aload_n 1, 1) ∧ decode rx 2 = .ok (.invokespecial ix, 3) ∧ decode rx 5 = .ok (.return_, 1)) (hw : zThW own ik cls ((zNwX own ic cls ix rx "java/lang/RuntimeException" ["java/lang/Exception"]).filter vx_no)) (hts : zThS A s s.heap) (hB : ∀ w ∈ zB cls, va_Nw w s) (hstr : zThE own is s) (hP : va_P D vwCl wv H) (hD : va_D A wv) (hS : va_S A s.heap H locs) (hlen : ls.size = nL)
    (d0 : decode cc pc = .ok (.new ik, 3)) (d3 : decode cc (pc + 3) = .ok (.dup, 1)) (d4 : decode cc (pc + 4) = .ok (.ldc is, 2)) (d6 : decode cc (pc + 6) = .ok (.invokespecial ic, 3)) (d9 : decode cc (pc + 9) = .ok (.athrow, 1))
    (hR : 5 < R.frames ∧ (rest.map fun v => v.category).sum + 82 ≤ R.locals) (hc : cells + 1 ≤ R.cells ∧ slots + 6 ≤ R.slots) (hm : cells + 1 ≤ mc ∧ slots + 6 ≤ ms) :
    W p l e R s m args below meth c H locs cells slots (vx_MQ below zNo (zX D (w' val) A cls) args s mc ms A) (F0 m pc ls rest) := by
  subst hx
  rw [← hw']
  exact z_throwN C hT hl0 hx4 hw hts hB hstr hP hD hS hlen d0 d3 d4 d6 d9 hR hc hm
theorem z_throwNW {cls : String} {ik is ic ix mc ms : Nat} {rx : ByteArray} (C : zC p s m args meth c cc own nL D cy) (hT : ∀ x ∈ c.exceptionTable.toList, False) (hl0 : l.stackTraces = false) (hx4 : decode rx 0 = .ok (.aload_n 0, 1) ∧ decode rx 1 = .ok (.aload_n 1, 1) ∧ decode rx 2 = .ok (.invokespecial ix, 3) ∧ decode rx 5 = .ok (.return_, 1)) (hw : zThW own ik cls ((zNwX own ic cls ix rx "java/lang/RuntimeException" ["java/lang/Exception"]).filter vx_no)) (hts : zThS A s s.heap) (hB : ∀ w ∈ zB cls, va_Nw w s) (hstr : zThE own is s) (hP : va_P D vwCl wv H) (hD : va_D A wv) (hS : va_S A s.heap H locs) (hlen : ls.size = nL)
    (d0 : decode cc pc = .ok (.new ik, 3)) (d3 : decode cc (pc + 3) = .ok (.dup, 1)) (d4 : decode cc (pc + 4) = .ok (.ldc_w is, 3)) (d6 : decode cc (pc + 7) = .ok (.invokespecial ic, 3)) (d9 : decode cc (pc + 10) = .ok (.athrow, 1))
    (hR : 5 < R.frames ∧ (rest.map fun v => v.category).sum + 82 ≤ R.locals) (hc : cells + 1 ≤ R.cells ∧ slots + 6 ≤ R.slots) (hm : cells + 1 ≤ mc ∧ slots + 6 ≤ ms) :
    W p l e R s m args below meth c H locs cells slots (vx_MQ below zNo (zX D wv A cls) args s mc ms A) (F0 m pc ls rest) := by
  obtain ⟨text, sa, hsa⟩ := hstr
  refine z_thrNW (Y0 := "java/lang/RuntimeException") (r0 := ["java/lang/Exception"]) C.x C.b hl0 hx4.1 hx4.2.1 hx4.2.2.1 hx4.2.2.2 C.o hw.1 (by decide +kernel) (by decide +kernel) (C.ts _ hw.2.1) (C.ts _ hw.2.2.1) hsa (hw.hat C.ts hB) hw.good hts.1 hts.2 hS (hlen.trans C.2.2.1.symm) d0 d3 d4 d6 d9 (fun x hx => (hT x hx).elim) hR.1 hR.2 hc.1 hc.2 C.lk ?_ hS.2.2 hm.1 hm.2
  intro t _ hsz hk
  have hP' : va_P D vwCl wv t.heap := hP.kept (fun k q hq => hk q.1 (va_at.lt (hP k q hq)))
  exact ⟨(), trivial, ⟨rfl, hP', hD⟩, Nat.le_trans hS.1 hsz, fun q h1 h2 => (hk q (Nat.lt_of_lt_of_le h1 hS.1)).trans (hS.2.1 q h1 h2)⟩
theorem z_throwNW' {T : Type} {val : T} (o : T) {w' : T → va_W} {cls : String} {ik is ic ix mc ms : Nat} {rx : ByteArray} (hx : val = o) (hw' : wv = w' o) (C : zC p s m args meth c cc own nL D cy) (hT : ∀ x ∈ c.exceptionTable.toList, False) (hl0 : l.stackTraces = false) (hx4 : decode rx 0 = .ok (.aload_n 0, 1) ∧ decode rx 1 = .ok (.aload_n 1, 1) ∧ decode rx 2 = .ok (.invokespecial ix, 3) ∧ decode rx 5 = .ok (.return_, 1)) (hw : zThW own ik cls ((zNwX own ic cls ix rx "java/lang/RuntimeException" ["java/lang/Exception"]).filter vx_no)) (hts : zThS A s s.heap) (hB : ∀ w ∈ zB cls, va_Nw w s) (hstr : zThE own is s) (hP : va_P D vwCl wv H) (hD : va_D A wv) (hS : va_S A s.heap H locs) (hlen : ls.size = nL)
    (d0 : decode cc pc = .ok (.new ik, 3)) (d3 : decode cc (pc + 3) = .ok (.dup, 1)) (d4 : decode cc (pc + 4) = .ok (.ldc_w is, 3)) (d6 : decode cc (pc + 7) = .ok (.invokespecial ic, 3)) (d9 : decode cc (pc + 10) = .ok (.athrow, 1))
    (hR : 5 < R.frames ∧ (rest.map fun v => v.category).sum + 82 ≤ R.locals) (hc : cells + 1 ≤ R.cells ∧ slots + 6 ≤ R.slots) (hm : cells + 1 ≤ mc ∧ slots + 6 ≤ ms) :
    W p l e R s m args below meth c H locs cells slots (vx_MQ below zNo (zX D (w' val) A cls) args s mc ms A) (F0 m pc ls rest) := by
  subst hx
  rw [← hw']
  exact z_throwNW C hT hl0 hx4 hw hts hB hstr hP hD hS hlen d0 d3 d4 d6 d9 hR hc hm
theorem z_got {wc wc' w' : va_W} {isC isR isO : List Nat} {a0 : Array Value} {mc ms : Nat} {E0 : String} (hr : vx_Run p l e R s m args below meth c H locs cells slots mc ms (F0 m pc ls st0) rest (zNo a0) (zX D wc' (va_A wc H.size) E0) (va_A wc H.size)) (hP : va_P D vwCl wv H) (hD : va_D A wv) (hS : va_S A s.heap H locs) (hA : ∀ q, s.heap.size ≤ q → A q) (hF : zFr wv wc wc' w' isC isR isO)
    (kx : ∀ (ce : Cell) (q9 : Addr) (H1 : Heap) (locs1 : List Loc), va_P D vwCl w' H1 → va_D A w' → va_S A s.heap H1 locs1 → H1[q9]? = some ce → ce.vm = .none → s.vm.findClass E0 = some ce.cls → vx_W p l e R s m args below meth c H1 locs1 (cells + mc) (slots + ms) Q (F0 m pc ls rest) q9) : W p l e R s m args below meth c H locs cells slots Q (F0 m pc ls st0) := by
  obtain ⟨f1, f2, f3, f4, f5, f6, f7⟩ := hF
  have hFc := va_free hD hS hA isC f1
  intro T hT X
  rcases hr T hT X with ⟨v, st₀, t, T', L, h0, X', hL, e1, e2, hno, st⟩ | ⟨q, st₀, t, T', L, E1, ce, h0, X', hL, e1, e2, ⟨u, hp, ⟨hE1, hP1, hD1⟩, hFr⟩, hce, hcv, hcl, st⟩
  · exact hno.elim
  · subst hE1
    obtain ⟨k1, k2, k3⟩ := vx_keep (A0 := A) h0 e1 hS (fun q _ h => hFc q h) hFc hL hFr
    rw [← e1] at hP1 hce
    obtain ⟨hP2, hD2⟩ := va_join hP hD isC isR f1 (zrest isR f2) f3 f4 k2 hFc hP1 hD1
    obtain ⟨t2, a1, b1⟩ := kx ce q T'.heap (locs ++ L) (zsub hP2 isO f5) (hD2.sub isO f6 f5) k3 hce hcv hcl T' rfl X'
    exact ⟨t2, st.trans a1, b1⟩
/-- a call that throws, and it goes on to the caller -/
theorem z_callVx {y : MethodName} {cb : ByteArray} {nb n idx : Nat} {ret : Option FieldType} {rf rl mc ms mc0 ms0 : Nat} {As : List Value} {isC isR isO : List Nat} {wc wc' w' : va_W} {b : Nat} {E0 : String} (hM : ∀ sz, vx_Met l y (zws y cb nb ret) { frames := rf, cells := mc, slots := ms, locals := rl } (zPre E D cy (.ref b :: As) wc sz) zNo (zX D wc' (va_A wc sz) E0) mc ms (va_A wc sz)) (hE : zEok E) (C : zC p s m args meth c cc own nL D cy) (hT : ∀ x ∈ c.exceptionTable.toList, False) (hs : zSiteV own idx y cb nb ret n) (hR : rf + 1 ≤ R.frames ∧ 8 + (nb + 11) + rl ≤ R.locals) (hP : va_P D vwCl wv H) (hD : va_D A wv) (hS : va_S A s.heap H locs) (hA : ∀ q, s.heap.size ≤ q → A q) (hE0 : E A s s.heap) (hF : zFr wv wc wc' w' isC isR isO) (q0 : Nat) {ci : Nat} {fs : List Value} {q : vw_C} (he : wv[q0]? = some (b, .inr (ci, fs))) (hc : vwCl[ci]? = some q) (hq : q.1 = y.cls) (hn : As.length = n) (hlen : ls.size = nL) (hcat : (rest.map fun v => v.category).sum ≤ 8) (hst : st0 = As.reverse ++ .ref b :: rest) (hdg : decode cc pc = .ok (.invokevirtual idx, 3)) (hf : cells + mc ≤ R.cells ∧ slots + ms ≤ R.slots) (hm : cells + mc ≤ mc0 ∧ slots + ms ≤ ms0) :
    W p l e R s m args below meth c H locs cells slots (vx_MQ below zNo (zX D w' A E0) args s mc0 ms0 A) (F0 m pc ls st0) := by
  obtain ⟨h1, h2⟩ := zcallee (av := .ref b :: As) hE C hP hD hS hA hE0 hF
  have hrv := va_recv C.K hP hc he
  rw [hq] at hrv
  exact z_got (vx_runV (As := As) (rest := rest) C.fix (hM H.size) (cwV n C.ts hs.1 rfl rfl rfl hs.2 hR) ⟨h1, hrv, h2⟩ rfl hn hlen hst (lv_room hcat) hdg hf) hP hD hS hA hF (fun ce q9 H1 locs1 hP1 hD1 hS1 hce hcv hcl => z_outx C hT hP1 hD1 hS1 hce hcv hcl hm.1 hm.2)
theorem z_callSx {y : MethodName} {cb : ByteArray} {nb n idx : Nat} {ret : Option FieldType} {rf rl mc ms mc0 ms0 : Nat} {As : List Value} {isC isR isO : List Nat} {wc wc' w' : va_W} {E0 : String} (hM : ∀ sz, vx_Met l y (zws y cb nb ret) { frames := rf, cells := mc, slots := ms, locals := rl } (zPre E D cy As wc sz) zNo (zX D wc' (va_A wc sz) E0) mc ms (va_A wc sz)) (hE : zEok E) (C : zC p s m args meth c cc own nL D cy) (hT : ∀ x ∈ c.exceptionTable.toList, False) (hs : zSiteS own idx y cb nb ret n) (hR : rf + 1 ≤ R.frames ∧ 8 + (nb + 11) + rl ≤ R.locals) (hP : va_P D vwCl wv H) (hD : va_D A wv) (hS : va_S A s.heap H locs) (hA : ∀ q, s.heap.size ≤ q → A q) (hE0 : E A s s.heap) (hF : zFr wv wc wc' w' isC isR isO) (hn : As.length = n) (hlen : ls.size = nL) (hcat : (rest.map fun v => v.category).sum ≤ 8) (hst : st0 = As.reverse ++ rest) (hdg : decode cc pc = .ok (.invokestatic idx, 3)) (hf : cells + mc ≤ R.cells ∧ slots + ms ≤ R.slots) (hm : cells + mc ≤ mc0 ∧ slots + ms ≤ ms0) :
    W p l e R s m args below meth c H locs cells slots (vx_MQ below zNo (zX D w' A E0) args s mc0 ms0 A) (F0 m pc ls st0) := by
  obtain ⟨h1, h2⟩ := zcallee (av := As) hE C hP hD hS hA hE0 hF
  exact z_got (vx_runS (As := As) (rest := rest) C.fix (hM H.size) (va_cwS n C.ts hs.1 rfl rfl rfl hs.2 hR) ⟨h1, h2⟩ rfl hn hlen hst (lv_room hcat) hdg hf) hP hD hS hA hF (fun ce q9 H1 locs1 hP1 hD1 hS1 hce hcv hcl => z_outx C hT hP1 hD1 hS1 hce hcv hcl hm.1 hm.2)
end ZX
/-- what the throws need of what stands outside -/
def zOutX (E : zEn) : Prop := ∀ A U H, E A U H → zThS A U H ∧ (∀ cls : String, cls ∈ ["java/lang/IllegalStateException", "java/util/NoSuchElementException", "java/lang/IllegalArgumentException", "java/lang/IndexOutOfBoundsException", "java/lang/ArithmeticException"] → ∀ w ∈ zB cls, va_Nw w U) ∧ ∀ is : Nat, is ∈ [53, 70, 78, 107, 138, 199, 234, 251, 277, 281, 298, 322, 327, 329, 332, 340, 342, 350, 353, 355] → zThE RX8 is U
theorem zcnar {x : Int32} {k : Nat} (h : zi x k) (hk : k < 65536) : vp_nar .char x = x := by
  rw [vp_nar_char]; unfold zi at h; rw [h]
  show (Int32.ofNat k).toUInt32.toUInt16.toUInt32.toInt32 = Int32.ofNat k
  apply Int32.toBitVec_inj.mp
  apply BitVec.eq_of_toNat_eq
  simp
  omega
