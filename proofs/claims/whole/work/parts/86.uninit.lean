/-! a call of a method whose class nothing says to be initialized: its code is walked all the same (the machine asks it of statics and of 'new' alone) -/
theorem z_backU {l : Launch} {R : Room} {p : Program} {e : Env} {below : List Frame} {s : State} {sargs : Array Value} {y : MethodName} {len Wd : Nat} {Pc : Array Value → State → Prop} {Qc : Array Value → State → Outcome → State → Prop} {mc ms : Nat} {free : Addr → Prop} {bytes : ByteArray} {maxL : Nat} {ret : Option FieldType} {rm : Room}
    (hy : plainName y.cls = true) (hblind : FrameBlind Pc) (hrc : rm.cells = mc) (hrs : rm.slots = ms) (hframes : rm.frames + 1 ≤ R.frames) (hlocals : Wd + (maxL + 11) + rm.locals ≤ R.locals)
    (hcode : ∀ (a' : Array Value) (U : State), s.WarmedH U.vm → (Cond.code y bytes maxL ret).before a' U = true)
    (body : ∀ (s' : State) (m : MethodId) (args : Array Value) (below' : List Frame) (meth : Method) (c : Code), s.WarmedH s'.vm → p.tables.exec = Jvm.exec → c.code = bytes → c.maxLocals = maxL → meth.sig.returnType = ret → meth.locks = false → s'.methodNamed? y = some m → Pc args s' →
      W p l e rm s' m args below' meth c s'.heap [] 0 0 (MQ below' Qc args s' mc ms free) (entryFrame m args maxL)) : Back l R p e below s sargs y len Wd (PreOf R mc ms Pc) (PostOf Qc mc ms free) := by
  intro m meth c A g ig mk a X hg hsize hdg hW hn hp
  have h2 := hcode a A.U X.warmed
  obtain ⟨U, Ls, c0, s0⟩ := A
  dsimp only [Pt.U, Pt.locs, Pt.cells, Pt.slots] at h2 X hn ⊢
  obtain ⟨hp1, hp2, hp3⟩ := hp
  dsimp only [Pt.U, Pt.locs, Pt.cells, Pt.slots] at hp1 hp2 hp3
  obtain ⟨methY, cY, hmY, hcY, hbY, hlY, hretY, hlkY, -, -⟩ := Cond.code_spec hn h2
  have h : At U g.method c below := by rw [hg]; exact X.here
  obtain ⟨mid, hmid⟩ := h.above
  have hfr : (U.setTop g).frames = (.java g :: mid) ++ below := by rw [State.frames_setTop' g h.top, hmid]; rfl
  have hroom : (U.calling g mk a).hasRoom e.platform rm = true := X.room_calling (g := g) (R' := rm) (args' := a) hsize hmY hcY hframes (by rw [hlY]; omega) (by rw [hrc]; exact hp1) (by rw [hrs]; exact hp2)
  -- the invocation
  have hf : (U.calling g mk a).frames = .invoking mk a :: (.java g :: U.frames.tail) := State.frames_calling h.top g mk a
  have hcodeG : (U.calling g mk a).code? g.method = some c := by
    have := h.code
    rw [State.code?_eq] at this ⊢
    simpa [State.calling, State.pushFrame, State.setFrames] using this
  have hrun : (U.calling g mk a).status = .running := h.running
  have hable : (U.calling g mk a).curStatus? = some .runnable := by simpa [State.calling] using h.runnable
  have halone : (U.calling g mk a).alone = true := by simpa [State.calling] using h.alone
  have hname : (U.calling g mk a).methodNamed? y = some mk := hn
  have hhears : (U.calling g mk a).hears mk (.java g :: U.frames.tail) = true := by simp [State.hears, hcodeG, hdg, Except.toOption]
  generalize hs' : U.calling g mk a = s' at *
  have hmeth : s'.vm.method? mk = some methY := by rw [← hs']; exact hmY
  have hcur := State.cur_lt_of_frames hf
  generalize hbl : (Frame.java g :: U.frames.tail) = below' at *
  have hf1 : (s'.setFrames (.java (entryFrame mk a maxL) :: below')).frames = .java (entryFrame mk a maxL) :: below' := State.frames_setFrames _ hcur
  have ht1 := State.topJava?_of_frames hf1
  have hplain : (s'.setFrames (.java (entryFrame mk a maxL) :: below')).plainMethod mk := State.plainMethod.of_named (s := s') (plainFor_of_name hy) hname hmeth
  have hAt : At (s'.setFrames (.java (entryFrame mk a maxL) :: below')) mk cY below' :=
    ⟨by rw [ht1]; rfl, ⟨[], by rw [hf1]; rfl⟩, hrun, by simpa using hable, by simpa using halone, by rw [State.code?_eq]; simp [State.setFrames, hmeth, hcY], hplain⟩
  have hstep : (stepThread p.tables e s').1 = (s'.setFrames (.java (entryFrame mk a maxL) :: below')).setTop (entryFrame mk a maxL) := by
    have hfull : e.platform.stackFull (s'.setFrames below').me (s'.setFrames below').frames cY.maxLocals = false := by
      obtain ⟨-, h1, -, h2⟩ := State.hasRoom_stack hroom
      rw [hf, List.length_cons] at h1
      rw [State.localsInUse_invoking hf hmeth hcY] at h2
      have hw := stackUse_le_stackWeight below'
      rw [State.frames_setFrames _ hcur]
      exact Platform.stackFull_eq_false (by rw [State.stackLimits_setFrames]; omega) (by rw [State.stackLimits_setFrames]; omega)
    rw [stepThread_invoking hf, (doInvoke_java (s := s'.setFrames below') (e := e) (meth := methY) (code := cY) hmeth hcY hlkY hfull).1, State.setTop_self ht1]
    simp only [State.pushFrame, State.frames_setFrames _ hcur, State.setFrames_setFrames, hlY, entryFrame]
  obtain ⟨t0, ht0, -⟩ := State.frames_cons hf
  have XY : Stand p l e rm s' mk a below' methY cY (s'.setFrames (.java (entryFrame mk a maxL) :: below')) [] 0 0 :=
    ⟨X.admits, X.cas, X.clock, hf, hroom, hhears, hmeth, hcY, hAt, by rw [hf1]; rfl, State.WarmedH.refl s', by rw [State.stackLimits_setFrames], by rw [State.stackBytes_setFrames], (State.sameButNew.refl s' ht0).setFrames _ hcur⟩
  have hWs : s.WarmedH s'.vm := by rw [← hs']; exact X.warmed
  have hPs : Pc a s' := by rw [← hs']; exact hblind _ _ _ _ hp3
  obtain ⟨s₂, hsteps0, o, hr, he, hq⟩ := body s' mk a below' methY cY hWs (by cases p <;> rfl) hbY hlY hretY hlkY hname hPs (s'.setFrames (.java (entryFrame mk a maxL) :: below')) rfl XY
  -- the first step of the call
  have hinv : (stepThread p.tables e s').1 = (doInvoke e (U.setTop g) [] mk a).1 := by
    have hlt : (U.setTop g).cur < (U.setTop g).threads.size := by
      have : (U.setTop g).frames = .java g :: (mid ++ below) := by rw [hfr]; rfl
      exact State.cur_lt_of_frames this
    have hf'' : ((U.setTop g).pushFrame (.invoking mk a)).frames = .invoking mk a :: (U.setTop g).frames := State.frames_setFrames _ hlt
    obtain ⟨t1, ht1', -⟩ := State.frames_cons (show (U.setTop g).frames = .java g :: (mid ++ below) from hfr)
    rw [← hs', State.calling, stepThread_invoking hf'', doInvoke_state e (U.setTop g) [], State.pushFrame, State.setFrames_setFrames, State.setFrames_self ht1']
  have hbelow : below' = (.java g :: mid) ++ below := by rw [← hbl, ← hfr, State.frames_setTop' g h.top]
  have hsteps : Steps p.tables e below (doInvoke e (U.setTop g) [] mk a).1 s₂ := by
    rw [← hinv, hstep]
    obtain ⟨n, hn1, hn2⟩ := hsteps0
    exact ⟨n, hn1, fun k hk => by
      have hw : Within (stepsAlone p.tables e k ((s'.setFrames (.java (entryFrame mk a maxL) :: below')).setTop (entryFrame mk a maxL))) ((.java g :: mid) ++ below) := by
        rw [← hbelow]; exact hn2 k hk
      exact hw.weaken⟩
  obtain ⟨hqc, L, hfe, hfree⟩ := hq
  obtain ⟨⟨v, rfl⟩, hW₂, e2, q2, q3, q4, q5, q6⟩ := id hfe
  have e3 : s₂ = ({ s'.setFrames s₂.frames with heap := s₂.heap, slotsUsed := s₂.slotsUsed } : State).setVm s₂.vm := by
    have : s₂ = ({ s₂ with vm := s'.vm } : State).setVm s₂.vm := rfl
    rw [e2] at this
    exact this
  rw [← hbl] at he
  obtain ⟨c₂, i₂, len₂, hc₂, hd₂, hf₂⟩ := he
  have hvmS : s'.vm = U.vm := by rw [← hs']; rfl
  have hW' : U.WarmedH s₂.vm := by
    rw [← hs'] at hW₂; exact hW₂
  have hcc : c₂ = c := by
    have h1 : s₂.code? g.method = U.code? g.method := by
      rw [State.code?_eq, State.code?_eq, hW'.alike.method?]
    exact Option.some.inj (hc₂.symm.trans (h1.trans h.code))
  subst hcc
  have hlen : len₂ = len := by rw [hdg] at hd₂; cases hd₂; rfl
  subst hlen
  obtain ⟨g₀, hg0⟩ := Option.isSome_iff_exists.mp h.top
  obtain ⟨r, hr0⟩ := State.topJava?_eq_some.mp hg0
  have hs₂ : s₂ = (({ U with heap := s₂.heap, slotsUsed := s₂.slotsUsed } : State).setVm s₂.vm).setTop { g with pc := g.pc + len₂, stack := v.toList ++ g.stack } := by
    have hr' : (({ U with heap := s₂.heap, slotsUsed := s₂.slotsUsed } : State).setVm s₂.vm).frames = .java g₀ :: r := hr0
    refine e3.trans ?_
    rw [hf₂, ← hs', State.calling_eq h.top, State.setFrames_setFrames, State.setTop_of_frames _ hr', hr0]
    rfl
  have hsame : U.sameButNew ({ U with heap := s₂.heap, slotsUsed := s₂.slotsUsed } : State) L mc ms := by
    rw [← hs'] at q2 q3 q4 q5 q6
    refine ⟨?_, q2, q3, q4, q5, q6⟩
    obtain ⟨t, ht, -⟩ := State.frames_cons hr0
    show ({ U with heap := s₂.heap, slotsUsed := s₂.slotsUsed } : State) = { U.setFrames U.frames with heap := s₂.heap, slotsUsed := s₂.slotsUsed }
    rw [State.setFrames_self ht]
  subst hg
  refine ⟨v, ⟨(({ U with heap := s₂.heap, slotsUsed := s₂.slotsUsed } : State).setVm s₂.vm), Ls ++ L, c0 + mc, s0 + ms⟩,
    ⟨X.admits, X.cas, X.clock, X.frames, X.room, X.hears, X.method, X.code, (X.here.setHeapUsed s₂.heap s₂.slotsUsed).setVm hW'.alike, X.tail, State.WarmedH.trans X.warmed hW', X.limits, X.bytes, X.same.trans (hsame.setVm s.vm)⟩,
    ⟨g, mk, s₂, L, rfl, rfl, by rw [hs']; exact hqc, rfl, hfree, rfl, rfl⟩, ?_⟩
  show Steps p.tables e below _ ((({ U with heap := s₂.heap, slotsUsed := s₂.slotsUsed } : State).setVm s₂.vm).setTop { g with pc := g.pc + len₂, stack := v.toList ++ g.stack })
  rw [← hs₂]
  exact hsteps
