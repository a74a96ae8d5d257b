section ZAO
variable {p : Program} {l : Launch} {e : Env} {R : Room} {s : State} {m : MethodId} {args : Array Value} {below : List Frame} {meth : Method} {c : Code} {H : Heap} {locs : List Loc} {cells slots : Nat} {Q : State → Prop}
variable {cc : ByteArray} {own : String} {nL : Nat} {D : zG} {cy : Nat → ClassId} {E : zEn} {A : Nat → Prop} {wv : va_W} {pc : Nat} {ls : Array Slot} {rest st0 : List Value}
theorem z_qastO (C : zC p s m args meth c cc own nL D cy) (hP : va_P D vwCl wv H) (hD : va_D A wv) (hS : va_S A s.heap H locs) (q0 : Nat) {a n v : Nat} {f : Nat → Option Nat} (ha : wv[q0]? = some (a, .inl (cy 7, n, .inr (.inr (.inr (.inr f)))))) (hO : va_O "PinballScorer$Command" v A s s.heap) {i : Int32} {k : Nat} (hi : zi i k) (hk : k < n) (hn : n < 2 ^ 31) {w' : va_W} (hw : wv.set q0 (a, .inl (cy 7, n, .inr (.inr (.inr (.inr (va_up f k (some v))))))) = w') (hdg : decode cc pc = .ok (.aastore, 1))
    (kk : ∀ (H1 : Heap) (locs1 : List Loc), va_P D vwCl w' H1 → va_D A w' → va_S A s.heap H1 locs1 → W p l e R s m args below meth c H1 locs1 cells slots Q (F0 m (pc + 1) ls rest)) : W p l e R s m args below meth c H locs cells slots Q (F0 m pc ls (.ref v :: .int i :: .ref a :: rest)) := by
  subst hw
  have e := zi_cl hi hk hn
  obtain ⟨cell, h1, h2, h3, -⟩ := hO.kept hS.2.1
  obtain ⟨kC, hkC, -⟩ := Vm.findClass_spec h3
  refine va_astqM C.x C.b C.K hP hD hS q0 7 (E := "PinballScorer$Command") ha rfl ⟨cell, h1, h2, ⟨kC, hkC⟩, fun comp h => ?_⟩ (zi_in hi hk hn) hdg ?_
  · cases Option.some.inj (h.symm.trans h3)
    exact va_asg _ _
  · rw [e]
    exact kk
end ZAO
set_option maxHeartbeats 4000000 in
set_option maxRecDepth 100000 in
theorem c_X5_readCommand (l : Launch) {E : zEn} (hE : zEok E) (D : zG) (cy : Nat → ClassId) (hOB : zOutB E) {ad adK adV : Nat → Nat} (hOC : zOutC E ad adK adV) (a0 a1 a2 a3 L p k : Nat) (ft : Nat → Int32) (fi : Nat → Option Nat) (fg : Nat → Int32) (hL : L ≤ 60) (hp : p ≤ 60) (hk : k < 60) (hft : ∀ j, j < L → zle (ft j) 127) (sz : Nat) : Met l yX5_readCommand (zws yX5_readCommand cX5_readCommand 3 (some .boolean)) { frames := 5, cells := 0, slots := 0, locals := 240 } (zPre E D cy [.ref a0] (zScw cy ad a0 a1 a2 a3 L p k ft fi fg) sz) (zQi D (zrcW cy ad a0 a1 a2 a3 L k ft fi fg (zrcm ft L p)) (va_A (zScw cy ad a0 a1 a2 a3 L p k ft fi fg) sz) ((zrcm ft L p).1)) 0 0 (va_A (zScw cy ad a0 a1 a2 a3 L p k ft fi fg) sz) := by
  refine z_of (Qc := fun A => zQi D (zrcW cy ad a0 a1 a2 a3 L k ft fi fg (zrcm ft L p)) A ((zrcm ft L p).1)) (by decide +kernel) (Nat.le_of_ble_eq_true rfl) rfl ?_
  intro pG eN sT mI below meth cO A ls C hRT hnm hA hP hD hS hE0 hl
  have hX := C.x
  have hB := C.b
  obtain ⟨_, _, hcm, hstr, _⟩ := hOC _ _ _ hE0
  refine lv_aload_n hX hB dX5_readCommand_0 rfl (lv_at hl 0 rfl) ?_
  refine z_callVq (isC := [0, 1, 2, 3]) (isR := []) (isO := [0, 1, 2, 3]) (zca ft L p) (fun _ => zScw cy ad a0 a1 a2 a3 L p k ft fi fg) (fun _ => zScw cy ad a0 a1 a2 a3 L p k ft fi fg) (fun o => o.map ad) (c_X5_commandAhead l hE D cy hOB hOC a0 a1 a2 a3 L p k ft fi fg hL hp hft) hE C zs_X5_43 ⟨Nat.le_of_ble_eq_true rfl, Nat.le_of_ble_eq_true rfl⟩ hP hD hS hA hE0 ⟨rfl, rfl, rfl, by decide, rfl, rfl, rfl⟩ 0 rfl rfl rfl rfl hl.1 (Nat.le_of_ble_eq_true rfl) rfl dX5_readCommand_1 ⟨Nat.le_of_ble_eq_true rfl, Nat.le_of_ble_eq_true rfl⟩ (fun o H locs eo hP hD hS => ?_)
  cases hz : zca ft L p with
  | none =>
    have e : o = none := eo.trans hz
    subst e
    have ez : zrcm ft L p = (0, p, 0, 0) := by unfold zrcm; rw [hz]
    rw [show zrcW cy ad a0 a1 a2 a3 L k ft fi fg (zrcm ft L p) = zScw cy ad a0 a1 a2 a3 L p k ft fi fg from by rw [ez]; rfl, ez]
    refine lv_astore_nN (lv' := [(1, .null), (0, .ref a0)]) hX hB dX5_readCommand_4 rfl hl (by decide) rfl (fun ls hl => ?_)
    refine lv_aload_nN hX hB dX5_readCommand_5 rfl (lv_at hl 0 rfl) ?_
    refine lv_ifnullN (tgt := 20) hX hB dX5_readCommand_6 (by decide) ?_
    refine lv_iconst (v := 0) hX hB dX5_readCommand_20 (by decide) ?_
    exact z_zret C hRT (zb01 (Or.inl rfl)) hP hD hS (Nat.le_of_ble_eq_true rfl) (Nat.le_of_ble_eq_true rfl) rfl rfl dX5_readCommand_21
  | some i =>
    have e : o = some i := eo.trans hz
    subst e
    have hi := (zca_lt hz).1
    have hzp := zrw_p ft L i hL 8 0 p hp
    have h01 := zrw_01 ft L i 8 0 p
    generalize hzw : zrw ft L i 8 0 p = w at hzp h01
    obtain ⟨r, p'⟩ := w
    refine lv_astore_n (lv' := [(1, .ref (ad i)), (0, .ref a0)]) hX hB dX5_readCommand_4 rfl hl (by decide) rfl (fun ls hl => ?_)
    refine lv_aload_n hX hB dX5_readCommand_5 rfl (lv_at hl 0 rfl) ?_
    refine lv_ifnull hX hB dX5_readCommand_6 ?_
    refine lv_aload_n hX hB dX5_readCommand_9 rfl (lv_at hl 1 rfl) ?_
    refine lv_aload_n hX hB dX5_readCommand_10 rfl (lv_at hl 0 rfl) ?_
    refine vk_getf hX hB (hcm i hi).2.2.1 hS C.o (C.ts _ zm1298) (fun _ h => h) dX5_readCommand_11 ?_
    refine z_callVi (isC := [0, 1, 2, 3]) (isR := []) (isO := [0, 1, 2, 3]) (zrw ft L i 8 0 p) (fun o => zScw cy ad a0 a1 a2 a3 L o.2 k ft fi fg) (fun o => zScw cy ad a0 a1 a2 a3 L o.2 k ft fi fg) (fun o => o.1) (c_X5_readWord l hE D cy hOB hOC a0 a1 a2 a3 L p k ft fi fg i hi hL hp) hE C zs_X5_51 ⟨Nat.le_of_ble_eq_true rfl, Nat.le_of_ble_eq_true rfl⟩ hP hD hS hA hE0 ⟨rfl, rfl, rfl, by decide, rfl, rfl, rfl⟩ 0 rfl rfl rfl rfl hl.1 (Nat.le_of_ble_eq_true rfl) rfl dX5_readCommand_14 ⟨Nat.le_of_ble_eq_true rfl, Nat.le_of_ble_eq_true rfl⟩ (fun o2 H locs eo2 hP hD hS => ?_)
    have e2 : o2 = (r, p') := eo2.trans hzw
    subst e2
    have hp' : p' ≤ 60 := hzp.2
    by_cases hr : r = 0
    · subst hr
      have ez : zrcm ft L p = (0, p', 0, 0) := by unfold zrcm; rw [hz]; show (if (zrw ft L i 8 0 p).1 = 0 then _ else _) = _; rw [hzw]; rfl
      rw [show zrcW cy ad a0 a1 a2 a3 L k ft fi fg (zrcm ft L p) = zScw cy ad a0 a1 a2 a3 L p' k ft fi fg from by rw [ez]; rfl, ez]
      refine lv_if_ne (tgt := 22) hX hB dX5_readCommand_17 (by decide) (fun c => absurd rfl c) (fun _ => ?_)
      refine lv_iconst (v := 0) hX hB dX5_readCommand_20 (by decide) ?_
      exact z_zret C hRT (zb01 (Or.inl rfl)) hP hD hS (Nat.le_of_ble_eq_true rfl) (Nat.le_of_ble_eq_true rfl) rfl rfl dX5_readCommand_21
    · have er : r = 1 := h01.resolve_left hr
      subst er
      refine lv_if_ne (tgt := 22) hX hB dX5_readCommand_17 (by decide) (fun _ => ?_) (fun c => absurd (show (1 : Int32) = 0 from c) (by decide))
      refine lv_iconst (v := 0) hX hB dX5_readCommand_22 (by decide) ?_
      refine lv_istore_n (lv' := [(2, .int 0), (1, .ref (ad i)), (0, .ref a0)]) hX hB dX5_readCommand_23 rfl hl (by decide) rfl (fun ls hl => ?_)
      refine lv_aload_n hX hB dX5_readCommand_24 rfl (lv_at hl 1 rfl) ?_
      refine vk_getf hX hB (hcm i hi).2.2.2 hS C.o (C.ts _ zm1299) (fun _ h => h) dX5_readCommand_25 ?_
      -- the rest, from 63, with the digit v
      have fin : ∀ (q : Nat) (v : Int32), q ≤ 60 → zrcm ft L p = (1, q, i, v) → ∀ (H : Heap) (locs : List Loc), va_P D vwCl (zScw cy ad a0 a1 a2 a3 L q k ft fi fg) H → va_D A (zScw cy ad a0 a1 a2 a3 L q k ft fi fg) → va_S A sT.heap H locs → ∀ (ls : Array Slot), lv_has ls 3 [(2, .int v), (1, .ref (ad i)), (0, .ref a0)] → W pG l eN { frames := 5, cells := 0, slots := 0, locals := 240 } sT mI ([.ref a0] : List Value).toArray below meth cO H locs 0 0 (MQ below (zQi D (zrcW cy ad a0 a1 a2 a3 L k ft fi fg (zrcm ft L p)) A ((zrcm ft L p).1)) ([.ref a0] : List Value).toArray sT 0 0 A) (F0 mI 63 ls []) := by
        intro q v hq ez H locs hP hD hS ls hl
        rw [show zrcW cy ad a0 a1 a2 a3 L k ft fi fg (zrcm ft L p) = zScw cy ad a0 a1 a2 a3 L q (k + 1) ft (va_up fi k (some i)) (upd fg k v) from by rw [ez]; rfl, ez]
        refine lv_aload_n hX hB dX5_readCommand_63 rfl (lv_at hl 2 rfl) ?_
        refine fg_X5_17 C hP 0 rfl rfl dX5_readCommand_64 ?_
        refine lv_aload_n hX hB dX5_readCommand_67 rfl (lv_at hl 2 rfl) ?_
        refine fg_X5_32 C hP 0 rfl rfl dX5_readCommand_68 ?_
        refine lv_aload_n hX hB dX5_readCommand_71 rfl (lv_at hl 1 rfl) ?_
        refine z_qastO C hP hD hS 2 rfl (hcm i hi).1 (k := k) (zi_i k) hk (by decide) (w' := [(a0, .inr (7, [.ref a1, .int (nI L), .int (nI q), .ref a2, .ref a3, .int (nI k)])), (a1, .inl (cy 3, 60, .inl ft)), (a2, .inl (cy 7, 60, .inr (.inr (.inr (.inr (fun j => (va_up fi k (some i) j).map ad)))))), (a3, .inl (cy 0, 60, .inl fg))]) (by rw [zup_map]; rfl) dX5_readCommand_72 (fun H locs hP hD hS => ?_)
        refine lv_aload_n hX hB dX5_readCommand_73 rfl (lv_at hl 2 rfl) ?_
        refine fg_X5_21 C hP 0 rfl rfl dX5_readCommand_74 ?_
        refine lv_aload_n hX hB dX5_readCommand_77 rfl (lv_at hl 2 rfl) ?_
        refine fg_X5_32 C hP 0 rfl rfl dX5_readCommand_78 ?_
        refine lv_iload_n hX hB dX5_readCommand_81 rfl (lv_at hl 0 rfl) ?_
        refine z_iast C hP hD hS 3 rfl (k := k) (zi_i k) hk (by decide) (w' := zScw cy ad a0 a1 a2 a3 L q k ft (va_up fi k (some i)) (upd fg k v)) rfl dX5_readCommand_82 (fun H locs hP hD hS => ?_)
        refine lv_aload_n hX hB dX5_readCommand_83 rfl (lv_at hl 2 rfl) ?_
        refine lv_dup hX hB dX5_readCommand_84 rfl ?_
        refine fg_X5_32 C hP 0 rfl rfl dX5_readCommand_85 ?_
        refine lv_iconst (v := 1) hX hB dX5_readCommand_88 (by decide) ?_
        refine z_iadd (v := nI (k + 1)) C dX5_readCommand_89 (zi_add (zi_i k) (zlit 1)) ?_
        refine fp_X5_32 C hP hD hS 0 rfl rfl rfl (Nat.le_of_ble_eq_true rfl) (w' := zScw cy ad a0 a1 a2 a3 L q (k + 1) ft (va_up fi k (some i)) (upd fg k v)) rfl dX5_readCommand_90 (fun H locs hP hD hS => ?_)
        refine lv_iconst (v := 1) hX hB dX5_readCommand_93 (by decide) ?_
        exact z_zret C hRT (zb01 (Or.inr rfl)) hP hD hS (Nat.le_of_ble_eq_true rfl) (Nat.le_of_ble_eq_true rfl) rfl rfl dX5_readCommand_94
      by_cases hd : 2 ≤ i ∧ i < 6
      · rw [if_pos hd]
        refine lv_if_eq (tgt := 63) hX hB dX5_readCommand_28 (by decide) (fun c => absurd c (by decide)) (fun _ => ?_)
        refine lv_aload_n hX hB dX5_readCommand_31 rfl (lv_at hl 2 rfl) ?_
        refine z_callVi (isC := [0, 1, 2, 3]) (isR := []) (isO := [0, 1, 2, 3]) (zda ft L p') (fun _ => zScw cy ad a0 a1 a2 a3 L p' k ft fi fg) (fun _ => zScw cy ad a0 a1 a2 a3 L p' k ft fi fg) (fun o => o) (c_X5_isDigitAhead l hE D cy ad a0 a1 a2 a3 L p' k ft fi fg hL hp') hE C zs_X5_59 ⟨Nat.le_of_ble_eq_true rfl, Nat.le_of_ble_eq_true rfl⟩ hP hD hS hA hE0 ⟨rfl, rfl, rfl, by decide, rfl, rfl, rfl⟩ 0 rfl rfl rfl rfl hl.1 (Nat.le_of_ble_eq_true rfl) rfl dX5_readCommand_32 ⟨Nat.le_of_ble_eq_true rfl, Nat.le_of_ble_eq_true rfl⟩ (fun o3 H locs eo3 hP hD hS => ?_)
        by_cases hg : zda ft L p' = 0
        · have e3 : o3 = 0 := eo3.trans hg
          subst e3
          have ez : zrcm ft L p = (0, p', 0, 0) := by
            unfold zrcm; rw [hz]
            show (if (zrw ft L i 8 0 p).1 = 0 then _ else _) = _
            rw [hzw]
            show (if (1 : Int32) = 0 then _ else _) = _
            rw [if_neg (by decide), if_pos hd]
            show (if zda ft L p' = 0 then _ else _) = _
            rw [if_pos hg]
          rw [show zrcW cy ad a0 a1 a2 a3 L k ft fi fg (zrcm ft L p) = zScw cy ad a0 a1 a2 a3 L p' k ft fi fg from by rw [ez]; rfl, ez]
          refine lv_if_ne (tgt := 40) hX hB dX5_readCommand_35 (by decide) (fun c => absurd rfl c) (fun _ => ?_)
          refine lv_iconst (v := 0) hX hB dX5_readCommand_38 (by decide) ?_
          exact z_zret C hRT (zb01 (Or.inl rfl)) hP hD hS (Nat.le_of_ble_eq_true rfl) (Nat.le_of_ble_eq_true rfl) rfl rfl dX5_readCommand_39
        · have hpL : p' < L := by
            unfold zda at hg
            split at hg
            · rename_i h5; exact h5.1
            · exact absurd rfl hg
          have ez : zrcm ft L p = (1, p' + 1, i, ft p' - 48) := by
            unfold zrcm; rw [hz]
            show (if (zrw ft L i 8 0 p).1 = 0 then _ else _) = _
            rw [hzw]
            show (if (1 : Int32) = 0 then _ else _) = _
            rw [if_neg (by decide), if_pos hd]
            show (if zda ft L p' = 0 then _ else _) = _
            rw [if_neg hg]
          subst eo3
          refine lv_if_ne (tgt := 40) hX hB dX5_readCommand_35 (by decide) (fun _ => ?_) (fun c => absurd c hg)
          refine lv_aload_n hX hB dX5_readCommand_40 rfl (lv_at hl 2 rfl) ?_
          refine fg_X5_9 C hP 0 rfl rfl dX5_readCommand_41 ?_
          refine lv_aload_n hX hB dX5_readCommand_44 rfl (lv_at hl 2 rfl) ?_
          refine fg_X5_29 C hP 0 rfl rfl dX5_readCommand_45 ?_
          refine z_cald C hP 1 rfl (k := p') (zi_i p') (by omega) (by decide) (v := ft p') rfl dX5_readCommand_48 ?_
          refine lv_bipush (v := 48) hX hB dX5_readCommand_49 (by decide) ?_
          refine z_isub (v := ft p' - 48) C dX5_readCommand_51 rfl ?_
          refine lv_istore_n (lv' := [(2, .int (ft p' - 48)), (1, .ref (ad i)), (0, .ref a0)]) hX hB dX5_readCommand_52 rfl hl (by decide) rfl (fun ls hl => ?_)
          refine lv_aload_n hX hB dX5_readCommand_53 rfl (lv_at hl 2 rfl) ?_
          refine lv_dup hX hB dX5_readCommand_54 rfl ?_
          refine fg_X5_29 C hP 0 rfl rfl dX5_readCommand_55 ?_
          refine lv_iconst (v := 1) hX hB dX5_readCommand_58 (by decide) ?_
          refine z_iadd (v := nI (p' + 1)) C dX5_readCommand_59 (zi_add (zi_i p') (zlit 1)) ?_
          refine fp_X5_29 C hP hD hS 0 rfl rfl rfl (Nat.le_of_ble_eq_true rfl) (w' := zScw cy ad a0 a1 a2 a3 L (p' + 1) k ft fi fg) rfl dX5_readCommand_60 (fun H locs hP hD hS => ?_)
          exact fin (p' + 1) _ (by omega) ez _ _ hP hD hS ls hl
      · rw [if_neg hd]
        have ez : zrcm ft L p = (1, p', i, 0) := by
          unfold zrcm; rw [hz]
          show (if (zrw ft L i 8 0 p).1 = 0 then _ else _) = _
          rw [hzw]
          show (if (1 : Int32) = 0 then _ else _) = _
          rw [if_neg (by decide), if_neg hd]
        refine lv_if_eq (tgt := 63) hX hB dX5_readCommand_28 (by decide) (fun _ => ?_) (fun c => absurd rfl c)
        exact fin p' 0 hp' ez _ _ hP hD hS ls hl
set_option maxHeartbeats 4000000 in
set_option maxRecDepth 100000 in
theorem c_X5_parse (l : Launch) {E : zEn} (hE : zEok E) (D : zG) (cy : Nat → ClassId) (hOB : zOutB E) {ad adK adV : Nat → Nat} (hOC : zOutC E ad adK adV) (a0 a1 a2 a3 L p0 k0 : Nat) (ft : Nat → Int32) (fi0 : Nat → Option Nat) (fg0 : Nat → Int32) (hL : L ≤ 60) (hft : ∀ j, j < L → zle (ft j) 127) (sz : Nat) : Met l yX5_parse (zws yX5_parse cX5_parse 2 (some .boolean)) { frames := 6, cells := 0, slots := 0, locals := 280 } (zPre E D cy [.ref a0] (zScw cy ad a0 a1 a2 a3 L p0 k0 ft fi0 fg0) sz) (zQi D (zPw cy ad a0 a1 a2 a3 L ft (zparse ft L fi0 fg0)) (va_A (zScw cy ad a0 a1 a2 a3 L p0 k0 ft fi0 fg0) sz) ((zparse ft L fi0 fg0).1)) 0 0 (va_A (zScw cy ad a0 a1 a2 a3 L p0 k0 ft fi0 fg0) sz) := by
  refine z_of (Qc := fun A => zQi D (zPw cy ad a0 a1 a2 a3 L ft (zparse ft L fi0 fg0)) A ((zparse ft L fi0 fg0).1)) (by decide +kernel) (Nat.le_of_ble_eq_true rfl) rfl ?_
  intro pG eN sT mI below meth cO A ls C hRT hnm hA hP hD hS hE0 hl
  have hX := C.x
  have hB := C.b
  refine lv_aload_n hX hB dX5_parse_0 rfl (lv_at hl 0 rfl) ?_
  refine lv_iconst (v := 0) hX hB dX5_parse_1 (by decide) ?_
  refine fp_X5_29 C hP hD hS 0 rfl rfl rfl (Nat.le_of_ble_eq_true rfl) (w' := zScw cy ad a0 a1 a2 a3 L 0 k0 ft fi0 fg0) rfl dX5_parse_2 (fun H locs hP hD hS => ?_)
  refine lv_aload_n hX hB dX5_parse_5 rfl (lv_at hl 0 rfl) ?_
  refine lv_iconst (v := 0) hX hB dX5_parse_6 (by decide) ?_
  refine fp_X5_32 C hP hD hS 0 rfl rfl rfl (Nat.le_of_ble_eq_true rfl) (w' := zScw cy ad a0 a1 a2 a3 L 0 0 ft fi0 fg0) rfl dX5_parse_7 (fun H locs hP hD hS => ?_)
  refine lv_aload_n hX hB dX5_parse_10 rfl (lv_at hl 0 rfl) ?_
  refine z_callVi (isC := List.range' 0 4) (isR := List.range 0) (isO := List.range 4) (zrcm ft L 0) (fun o => zrcW cy ad a0 a1 a2 a3 L 0 ft fi0 fg0 o) (fun o => zrcW cy ad a0 a1 a2 a3 L 0 ft fi0 fg0 o) (fun o => o.1) (c_X5_readCommand l hE D cy hOB hOC a0 a1 a2 a3 L 0 0 ft fi0 fg0 hL (by omega) (by omega) hft) hE C zs_X5_35 ⟨Nat.le_of_ble_eq_true rfl, Nat.le_of_ble_eq_true rfl⟩ hP hD hS hA hE0 (zFr_rc cy ad a0 a1 a2 a3 L 0 0 ft fi0 fg0 _) 0 rfl rfl rfl rfl hl.1 (Nat.le_of_ble_eq_true rfl) rfl dX5_parse_11 ⟨Nat.le_of_ble_eq_true rfl, Nat.le_of_ble_eq_true rfl⟩ (fun o H locs eo hP hD hS => ?_)
  -- one more command read: the world as the list's next state
  have stepW : ∀ (p k : Nat) (fi : Nat → Option Nat) (fg : Nat → Int32), zrcW cy ad a0 a1 a2 a3 L k ft fi fg (zrcm ft L p) = zPw cy ad a0 a1 a2 a3 L ft (zst ft L p k fi fg) := by
    intro p k fi fg
    unfold zrcW zst zPw
    split <;> rfl
  have step1 : ∀ (p k : Nat) (fi : Nat → Option Nat) (fg : Nat → Int32), (zst ft L p k fi fg).1 = (zrcm ft L p).1 := by
    intro p k fi fg
    unfold zst
    rcases zrcm_01 ft L p with h | h
    · rw [if_pos h, h]
    · rw [if_neg (by rw [h]; decide), h]
  have step2 : ∀ (p k : Nat) (fi : Nat → Option Nat) (fg : Nat → Int32), (zst ft L p k fi fg).2.1 = (zrcm ft L p).2.1 := by
    intro p k fi fg
    unfold zst
    split <;> rfl
  subst eo
  rw [stepW] at hP hD
  have loop : ∀ (f : Nat) (x : zPs), (x.1 = 0 ∨ 60 - x.2.1 < f) → (x.1 = 0 ∨ x.1 = 1) → x.2.1 ≤ 60 ∧ x.2.2.1 ≤ 60 → zpl ft L f x = zparse ft L fi0 fg0 → ∀ (H : Heap) (locs : List Loc), va_P D vwCl (zPw cy ad a0 a1 a2 a3 L ft x) H → va_D A (zPw cy ad a0 a1 a2 a3 L ft x) → va_S A sT.heap H locs → ∀ (ls : Array Slot), lv_has ls 2 [(1, .int x.1), (0, .ref a0)] → W pG l eN { frames := 6, cells := 0, slots := 0, locals := 280 } sT mI ([.ref a0] : List Value).toArray below meth cO H locs 0 0 (MQ below (zQi D (zPw cy ad a0 a1 a2 a3 L ft (zparse ft L fi0 fg0)) A ((zparse ft L fi0 fg0).1)) ([.ref a0] : List Value).toArray sT 0 0 A) (F0 mI 15 ls []) := by
    intro f
    induction f with
    | zero =>
      intro x h1 h2 h3 hz H locs hP hD hS ls hl
      have h0 : x.1 = 0 := h1.resolve_right (by omega)
      rw [← hz, zpl_0 ft L 0 x h0]
      refine lv_iload_n hX hB dX5_parse_15 rfl (lv_at hl 0 rfl) ?_
      refine lv_if_eq (tgt := 64) hX hB dX5_parse_16 (by decide) (fun _ => ?_) (fun c => absurd h0 c)
      refine lv_iload_n hX hB dX5_parse_64 rfl (lv_at hl 0 rfl) ?_
      exact z_zret C hRT (zb01 h2) hP hD hS (Nat.le_of_ble_eq_true rfl) (Nat.le_of_ble_eq_true rfl) rfl rfl dX5_parse_65
    | succ f ih =>
      intro x h1 h2 h3 hz H locs hP hD hS ls hl
      obtain ⟨ok, p, k, fi, fg⟩ := x
      have h3' : p ≤ 60 := h3.1
      have h4' : k ≤ 60 := h3.2
      refine lv_iload_n hX hB dX5_parse_15 rfl (lv_at hl 0 rfl) ?_
      by_cases h0 : ok = 0
      · rw [← hz, zpl_0 ft L _ _ h0]
        refine lv_if_eq (tgt := 64) hX hB dX5_parse_16 (by decide) (fun _ => ?_) (fun c => absurd h0 c)
        refine lv_iload_n hX hB dX5_parse_64 rfl (lv_at hl 0 rfl) ?_
        exact z_zret C hRT (zb01 h2) hP hD hS (Nat.le_of_ble_eq_true rfl) (Nat.le_of_ble_eq_true rfl) rfl rfl dX5_parse_65
      · have hm : 60 - p < f + 1 := h1.resolve_left h0
        have hz1 : zpl ft L (f + 1) (ok, p, k, fi, fg) = if L ≤ p then (ok, p, k, fi, fg) else if 60 ≤ k then (ok, p, k, fi, fg) else if (zrd ft L p 59).1 = 0 then (0, (zrd ft L p 59).2, k, fi, fg) else zpl ft L f (zst ft L (zrd ft L p 59).2 k fi fg) := by rw [zpl, if_neg h0]
        refine lv_if_eq (tgt := 64) hX hB dX5_parse_16 (by decide) (fun c => absurd c h0) (fun _ => ?_)
        refine lv_aload_n hX hB dX5_parse_19 rfl (lv_at hl 1 rfl) ?_
        refine fg_X5_29 C hP 0 rfl rfl dX5_parse_20 ?_
        refine lv_aload_n hX hB dX5_parse_23 rfl (lv_at hl 1 rfl) ?_
        refine fg_X5_25 C hP 0 rfl rfl dX5_parse_24 ?_
        refine lv_icmp_ge (tgt := 64) hX hB dX5_parse_27 (by decide) (fun k1 => ?_) (fun k1 => ?_)
        · have g1 : L ≤ p := (nI_leI (by omega) (by omega)).mp k1
          rw [← hz, hz1, if_pos g1]
          refine lv_iload_n hX hB dX5_parse_64 rfl (lv_at hl 0 rfl) ?_
          exact z_zret C hRT (zb01 h2) hP hD hS (Nat.le_of_ble_eq_true rfl) (Nat.le_of_ble_eq_true rfl) rfl rfl dX5_parse_65
        · have g1 : ¬ L ≤ p := fun z => k1 ((nI_leI (by omega) (by omega)).mpr z)
          refine lv_aload_n hX hB dX5_parse_30 rfl (lv_at hl 1 rfl) ?_
          refine fg_X5_32 C hP 0 rfl rfl dX5_parse_31 ?_
          refine lv_bipush (v := 60) hX hB dX5_parse_34 (by decide) ?_
          refine lv_icmp_ge (tgt := 64) hX hB dX5_parse_36 (by decide) (fun k2 => ?_) (fun k2 => ?_)
          · have g2 : 60 ≤ k := (nI_leI (by decide) (by omega)).mp (show nI 60 ≤ nI k from k2)
            rw [← hz, hz1, if_neg g1, if_pos g2]
            refine lv_iload_n hX hB dX5_parse_64 rfl (lv_at hl 0 rfl) ?_
            exact z_zret C hRT (zb01 h2) hP hD hS (Nat.le_of_ble_eq_true rfl) (Nat.le_of_ble_eq_true rfl) rfl rfl dX5_parse_65
          · have g2 : ¬ 60 ≤ k := fun z => k2 (show nI 60 ≤ nI k from (nI_leI (by decide) (by omega)).mpr z)
            refine lv_aload_n hX hB dX5_parse_39 rfl (lv_at hl 1 rfl) ?_
            refine lv_bipush (v := 59) hX hB dX5_parse_40 (by decide) ?_
            refine z_callVi (isC := [0, 1, 2, 3]) (isR := []) (isO := [0, 1, 2, 3]) (zrd ft L p 59) (fun o => zScw cy ad a0 a1 a2 a3 L o.2 k ft fi fg) (fun o => zScw cy ad a0 a1 a2 a3 L o.2 k ft fi fg) (fun o => o.1) (c_X5_read l hE D cy ad a0 a1 a2 a3 L p k ft fi fg 59 hL h3') hE C zs_X5_39 ⟨Nat.le_of_ble_eq_true rfl, Nat.le_of_ble_eq_true rfl⟩ hP hD hS hA hE0 ⟨rfl, rfl, rfl, by decide, rfl, rfl, rfl⟩ 0 rfl rfl rfl rfl hl.1 (Nat.le_of_ble_eq_true rfl) rfl dX5_parse_42 ⟨Nat.le_of_ble_eq_true rfl, Nat.le_of_ble_eq_true rfl⟩ (fun o H locs eo hP hD hS => ?_)
            by_cases h5 : p < L ∧ ft p = 59
            · have ez : zrd ft L p 59 = (1, p + 1) := if_pos h5
              have e : o = (1, p + 1) := eo.trans ez
              subst e
              have hp1 : p + 1 ≤ 60 := by omega
              refine lv_if_eq (tgt := 59) hX hB dX5_parse_45 (by decide) (fun c => absurd (show (1 : Int32) = 0 from c) (by decide)) (fun _ => ?_)
              refine lv_aload_n hX hB dX5_parse_48 rfl (lv_at hl 1 rfl) ?_
              refine z_callVi (isC := List.range' 0 4) (isR := List.range 0) (isO := List.range 4) (zrcm ft L (p + 1)) (fun o => zrcW cy ad a0 a1 a2 a3 L k ft fi fg o) (fun o => zrcW cy ad a0 a1 a2 a3 L k ft fi fg o) (fun o => o.1) (c_X5_readCommand l hE D cy hOB hOC a0 a1 a2 a3 L (p + 1) k ft fi fg hL hp1 (by omega) hft) hE C zs_X5_35 ⟨Nat.le_of_ble_eq_true rfl, Nat.le_of_ble_eq_true rfl⟩ hP hD hS hA hE0 (zFr_rc cy ad a0 a1 a2 a3 L (p + 1) k ft fi fg _) 0 rfl rfl rfl rfl hl.1 (Nat.le_of_ble_eq_true rfl) rfl dX5_parse_49 ⟨Nat.le_of_ble_eq_true rfl, Nat.le_of_ble_eq_true rfl⟩ (fun o2 H locs eo2 hP hD hS => ?_)
              subst eo2
              rw [stepW] at hP hD
              have hpp := zrcm_p ft L (p + 1) hL hp1
              have hz2 : zpl ft L f (zst ft L (p + 1) k fi fg) = zparse ft L fi0 fg0 := by rw [← hz, hz1, if_neg g1, if_neg g2, ez, if_neg (show ¬ (1 : Int32) = 0 by decide)]
              have hk2 : (zst ft L (p + 1) k fi fg).2.2.1 ≤ 60 := by
                unfold zst
                split
                · exact h4'
                · show k + 1 ≤ 60; omega
              rcases zrcm_01 ft L (p + 1) with h6 | h6
              · refine lv_if_eq (tgt := 59) hX hB dX5_parse_52 (by decide) (fun _ => ?_) (fun c => absurd h6 c)
                refine lv_iconst (v := 0) hX hB dX5_parse_59 (by decide) ?_
                refine lv_istore_n (lv' := [(1, .int (zst ft L (p + 1) k fi fg).1), (0, .ref a0)]) hX hB dX5_parse_60 rfl hl (by decide) (by rw [step1, h6]; rfl) (fun ls hl => ?_)
                refine lv_goto (tgt := 15) hX hB dX5_parse_61 (by decide) ?_
                exact ih _ (Or.inl (by rw [step1]; exact h6)) (Or.inl (by rw [step1]; exact h6)) ⟨by rw [step2]; exact hpp.2, hk2⟩ hz2 _ _ hP hD hS ls hl
              · refine lv_if_eq (tgt := 59) hX hB dX5_parse_52 (by decide) (fun c => absurd (h6.symm.trans c) (by decide)) (fun _ => ?_)
                refine lv_iconst (v := 1) hX hB dX5_parse_55 (by decide) ?_
                refine lv_goto (tgt := 60) hX hB dX5_parse_56 (by decide) ?_
                refine lv_istore_n (lv' := [(1, .int (zst ft L (p + 1) k fi fg).1), (0, .ref a0)]) hX hB dX5_parse_60 rfl hl (by decide) (by rw [step1, h6]; rfl) (fun ls hl => ?_)
                refine lv_goto (tgt := 15) hX hB dX5_parse_61 (by decide) ?_
                exact ih _ (Or.inr (by rw [step2]; omega)) (Or.inr (by rw [step1]; exact h6)) ⟨by rw [step2]; exact hpp.2, hk2⟩ hz2 _ _ hP hD hS ls hl
            · have ez : zrd ft L p 59 = (0, p) := if_neg h5
              have e : o = (0, p) := eo.trans ez
              subst e
              refine lv_if_eq (tgt := 59) hX hB dX5_parse_45 (by decide) (fun _ => ?_) (fun c => absurd rfl c)
              refine lv_iconst (v := 0) hX hB dX5_parse_59 (by decide) ?_
              refine lv_istore_n (lv' := [(1, .int 0), (0, .ref a0)]) hX hB dX5_parse_60 rfl hl (by decide) rfl (fun ls hl => ?_)
              refine lv_goto (tgt := 15) hX hB dX5_parse_61 (by decide) ?_
              exact ih (0, p, k, fi, fg) (Or.inl rfl) (Or.inl rfl) ⟨h3', h4'⟩ (by rw [zpl_0 ft L f _ rfl, ← hz, hz1, if_neg g1, if_neg g2, ez, if_pos rfl]) _ _ hP hD hS ls hl
  have e0 := zrcm_01 ft L 0
  refine lv_istore_n (lv' := [(1, .int (zst ft L 0 0 fi0 fg0).1), (0, .ref a0)]) hX hB dX5_parse_14 rfl hl (by decide) (by rw [step1]; rfl) (fun ls hl => ?_)
  exact loop 61 (zst ft L 0 0 fi0 fg0) (Or.inr (by omega)) (by rw [step1]; exact e0) ⟨by rw [step2]; exact (zrcm_p ft L 0 hL (by omega)).2, by unfold zst; split; exact Nat.zero_le _; exact Nat.le_of_ble_eq_true rfl⟩ rfl _ _ hP hD hS ls hl
