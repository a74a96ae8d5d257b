/-! the script: its cells, and what its methods answer -/
def zScw (cy : Nat → ClassId) (ad : Nat → Nat) (a0 a1 a2 a3 L p k : Nat) (ft : Nat → Int32) (fi : Nat → Option Nat) (fg : Nat → Int32) : va_W := [(a0, .inr (7, [.ref a1, .int (nI L), .int (nI p), .ref a2, .ref a3, .int (nI k)])), (a1, .inl (cy 3, 60, .inl ft)), (a2, .inl (cy 7, 60, .inr (.inr (.inr (.inr (fun j => (fi j).map ad)))))), (a3, .inl (cy 0, 60, .inl fg))]
def zrd (ft : Nat → Int32) (L p : Nat) (ch : Int32) : Int32 × Nat := if p < L ∧ ft p = ch then (1, p + 1) else (0, p)
def zda (ft : Nat → Int32) (L p : Nat) : Int32 := if p < L ∧ 48 ≤ ft p ∧ ft p ≤ 57 then 1 else 0
def zrw (ft : Nat → Int32) (L i : Nat) : Nat → Nat → Nat → Int32 × Nat
  | 0, _, p => (1, p)
  | f + 1, j, p => if zln i ≤ j then (1, p) else if p < L ∧ ft p = zch i j then zrw ft L i f (j + 1) (p + 1) else (0, p)
def zcf (ft : Nat → Int32) (p : Nat) : Nat → Nat → Option Nat
  | 0, _ => none
  | f + 1, j => if zch j 0 = ft p then some j else zcf ft p f (j + 1)
def zca (ft : Nat → Int32) (L p : Nat) : Option Nat := if p < L then zcf ft p 8 0 else none
def zrcm (ft : Nat → Int32) (L p : Nat) : Int32 × Nat × Nat × Int32 :=
  match zca ft L p with
  | none => (0, p, 0, 0)
  | some i => if (zrw ft L i 8 0 p).1 = 0 then (0, (zrw ft L i 8 0 p).2, 0, 0) else if 2 ≤ i ∧ i < 6 then (if zda ft L (zrw ft L i 8 0 p).2 = 0 then (0, (zrw ft L i 8 0 p).2, 0, 0) else (1, (zrw ft L i 8 0 p).2 + 1, i, ft (zrw ft L i 8 0 p).2 - 48)) else (1, (zrw ft L i 8 0 p).2, i, 0)
abbrev zPs : Type := Int32 × Nat × Nat × (Nat → Option Nat) × (Nat → Int32)
def zst (ft : Nat → Int32) (L p k : Nat) (fi : Nat → Option Nat) (fg : Nat → Int32) : zPs := if (zrcm ft L p).1 = 0 then (0, (zrcm ft L p).2.1, k, fi, fg) else (1, (zrcm ft L p).2.1, k + 1, va_up fi k (some (zrcm ft L p).2.2.1), upd fg k (zrcm ft L p).2.2.2)
def zpl (ft : Nat → Int32) (L : Nat) : Nat → zPs → zPs
  | 0, x => x
  | f + 1, x => if x.1 = 0 then x else if L ≤ x.2.1 then x else if 60 ≤ x.2.2.1 then x else if (zrd ft L x.2.1 59).1 = 0 then (0, (zrd ft L x.2.1 59).2, x.2.2.1, x.2.2.2.1, x.2.2.2.2) else zpl ft L f (zst ft L (zrd ft L x.2.1 59).2 x.2.2.1 x.2.2.2.1 x.2.2.2.2)
def zparse (ft : Nat → Int32) (L : Nat) (fi : Nat → Option Nat) (fg : Nat → Int32) : zPs := zpl ft L 61 (zst ft L 0 0 fi fg)
def zPw (cy : Nat → ClassId) (ad : Nat → Nat) (a0 a1 a2 a3 L : Nat) (ft : Nat → Int32) (x : zPs) : va_W := zScw cy ad a0 a1 a2 a3 L x.2.1 x.2.2.1 ft x.2.2.2.1 x.2.2.2.2
theorem zrd_01 (ft : Nat → Int32) (L p : Nat) (ch : Int32) : (zrd ft L p ch).1 = 0 ∨ (zrd ft L p ch).1 = 1 := by unfold zrd; split; exact Or.inr rfl; exact Or.inl rfl
theorem zda_01 (ft : Nat → Int32) (L p : Nat) : zda ft L p = 0 ∨ zda ft L p = 1 := by unfold zda; split; exact Or.inr rfl; exact Or.inl rfl
theorem zrw_01 (ft : Nat → Int32) (L i : Nat) : ∀ f j p, (zrw ft L i f j p).1 = 0 ∨ (zrw ft L i f j p).1 = 1 := by
  intro f
  induction f with
  | zero => intro j p; exact Or.inr rfl
  | succ f ih =>
    intro j p
    rw [zrw]
    split
    · exact Or.inr rfl
    · split
      · exact ih _ _
      · exact Or.inl rfl
theorem zrw_p (ft : Nat → Int32) (L i : Nat) (hL : L ≤ 60) : ∀ f j p, p ≤ 60 → p ≤ (zrw ft L i f j p).2 ∧ (zrw ft L i f j p).2 ≤ 60 := by
  intro f
  induction f with
  | zero => intro j p h; exact ⟨Nat.le_refl _, h⟩
  | succ f ih =>
    intro j p h
    rw [zrw]
    split
    · exact ⟨Nat.le_refl _, h⟩
    · split
      · rename_i h2
        have := ih (j + 1) (p + 1) (by omega)
        omega
      · exact ⟨Nat.le_refl _, h⟩
theorem zcf_lt (ft : Nat → Int32) (p : Nat) : ∀ f j i, zcf ft p f j = some i → i < j + f := by
  intro f
  induction f with
  | zero => intro j i h; cases h
  | succ f ih =>
    intro j i h
    rw [zcf] at h
    split at h
    · cases h; omega
    · have := ih _ _ h; omega
theorem zca_lt {ft : Nat → Int32} {L p i : Nat} (h : zca ft L p = some i) : i < 8 ∧ p < L := by
  unfold zca at h
  split at h
  · rename_i h2; exact ⟨zcf_lt ft p 8 0 i h, h2⟩
  · cases h
theorem zrcm_01 (ft : Nat → Int32) (L p : Nat) : (zrcm ft L p).1 = 0 ∨ (zrcm ft L p).1 = 1 := by
  unfold zrcm
  split
  · exact Or.inl rfl
  · split
    · exact Or.inl rfl
    · split
      · split
        · exact Or.inl rfl
        · exact Or.inr rfl
      · exact Or.inr rfl
theorem zrcm_p (ft : Nat → Int32) (L p : Nat) (hL : L ≤ 60) (hp : p ≤ 60) : p ≤ (zrcm ft L p).2.1 ∧ (zrcm ft L p).2.1 ≤ 60 := by
  unfold zrcm
  split
  · exact ⟨Nat.le_refl _, hp⟩
  · rename_i i _
    have h := zrw_p ft L i hL 8 0 p hp
    split
    · exact h
    · split
      · split
        · exact h
        · rename_i h3
          have h4 : (zrw ft L i 8 0 p).2 < L := by
            unfold zda at h3
            split at h3
            · rename_i h5; exact h5.1
            · exact absurd rfl h3
          exact ⟨Nat.le_succ_of_le h.1, by show _ + 1 ≤ 60; omega⟩
      · exact h
theorem zpl_0 (ft : Nat → Int32) (L : Nat) (f : Nat) (x : zPs) (h : x.1 = 0) : zpl ft L f x = x := by
  cases f with
  | zero => rfl
  | succ f => rw [zpl, if_pos h]
theorem zup_map (ad : Nat → Nat) (fi : Nat → Option Nat) (k i : Nat) : va_up (fun j => (fi j).map ad) k (some (ad i)) = (fun j => (va_up fi k (some i) j).map ad) := by
  funext j
  unfold va_up
  by_cases h : j = k
  · simp [h]
  · simp [h]
def zrcW (cy : Nat → ClassId) (ad : Nat → Nat) (a0 a1 a2 a3 L k : Nat) (ft : Nat → Int32) (fi : Nat → Option Nat) (fg : Nat → Int32) (o : Int32 × Nat × Nat × Int32) : va_W := if o.1 = 0 then zScw cy ad a0 a1 a2 a3 L o.2.1 k ft fi fg else zScw cy ad a0 a1 a2 a3 L o.2.1 (k + 1) ft (va_up fi k (some o.2.2.1)) (upd fg k o.2.2.2)
theorem zrcW_len (cy : Nat → ClassId) (ad : Nat → Nat) (a0 a1 a2 a3 L k : Nat) (ft : Nat → Int32) (fi : Nat → Option Nat) (fg : Nat → Int32) (o : Int32 × Nat × Nat × Int32) : (zrcW cy ad a0 a1 a2 a3 L k ft fi fg o).length = 4 := by unfold zrcW; split <;> rfl
theorem zFr_rc (cy : Nat → ClassId) (ad : Nat → Nat) (a0 a1 a2 a3 L p k : Nat) (ft : Nat → Int32) (fi : Nat → Option Nat) (fg : Nat → Int32) (o : Int32 × Nat × Nat × Int32) : zFr (zScw cy ad a0 a1 a2 a3 L p k ft fi fg) (zScw cy ad a0 a1 a2 a3 L p k ft fi fg) (zrcW cy ad a0 a1 a2 a3 L k ft fi fg o) (zrcW cy ad a0 a1 a2 a3 L k ft fi fg o) (List.range' 0 4) (List.range 0) (List.range 4) := by
  have h := zFr_end [] (zScw cy ad a0 a1 a2 a3 L p k ft fi fg) (zrcW cy ad a0 a1 a2 a3 L k ft fi fg o)
  rw [List.nil_append, List.nil_append, zrcW_len] at h
  exact h
set_option maxHeartbeats 4000000 in
set_option maxRecDepth 100000 in
theorem c_X5_read (l : Launch) {E : zEn} (hE : zEok E) (D : zG) (cy : Nat → ClassId) (ad : Nat → Nat) (a0 a1 a2 a3 L p k : Nat) (ft : Nat → Int32) (fi : Nat → Option Nat) (fg : Nat → Int32) (ch : Int32) (hL : L ≤ 60) (hp : p ≤ 60) (sz : Nat) : Met l yX5_read (zws yX5_read cX5_read 2 (some .boolean)) { frames := 0, cells := 0, slots := 0, locals := 0 } (zPre E D cy [.ref a0, .int ch] (zScw cy ad a0 a1 a2 a3 L p k ft fi fg) sz) (zQi D (zScw cy ad a0 a1 a2 a3 L (zrd ft L p ch).2 k ft fi fg) (va_A (zScw cy ad a0 a1 a2 a3 L p k ft fi fg) sz) ((zrd ft L p ch).1)) 0 0 (va_A (zScw cy ad a0 a1 a2 a3 L p k ft fi fg) sz) := by
  refine z_of (Qc := fun A => zQi D (zScw cy ad a0 a1 a2 a3 L (zrd ft L p ch).2 k ft fi fg) A ((zrd ft L p ch).1)) (by decide +kernel) (Nat.le_of_ble_eq_true rfl) rfl ?_
  intro pG eN sT mI below meth cO A ls C hRT hnm hA hP hD hS hE0 hl
  have hX := C.x
  have hB := C.b
  refine lv_aload_n hX hB dX5_read_0 rfl (lv_at hl 0 rfl) ?_
  refine fg_X5_29 C hP 0 rfl rfl dX5_read_1 ?_
  refine lv_aload_n hX hB dX5_read_4 rfl (lv_at hl 0 rfl) ?_
  refine fg_X5_25 C hP 0 rfl rfl dX5_read_5 ?_
  refine lv_icmp_ge (tgt := 24) hX hB dX5_read_8 (by decide) (fun c1 => ?_) (fun c1 => ?_)
  · have h1 := (nI_leI (by omega) (by omega)).mp c1
    rw [show zrd ft L p ch = (0, p) from if_neg (fun z => by omega)]
    refine lv_iconst (v := 0) hX hB dX5_read_24 (by decide) ?_
    exact z_zret C hRT (zb01 (Or.inl rfl)) hP hD hS (Nat.le_of_ble_eq_true rfl) (Nat.le_of_ble_eq_true rfl) rfl rfl dX5_read_25
  · have h1 : p < L := Nat.not_le.mp (fun z => c1 ((nI_leI (by omega) (by omega)).mpr z))
    refine lv_aload_n hX hB dX5_read_11 rfl (lv_at hl 0 rfl) ?_
    refine fg_X5_9 C hP 0 rfl rfl dX5_read_12 ?_
    refine lv_aload_n hX hB dX5_read_15 rfl (lv_at hl 0 rfl) ?_
    refine fg_X5_29 C hP 0 rfl rfl dX5_read_16 ?_
    refine z_cald C hP 1 rfl (k := p) (zi_i p) (by omega) (by decide) (v := ft p) rfl dX5_read_19 ?_
    refine lv_iload_n hX hB dX5_read_20 rfl (lv_at hl 1 rfl) ?_
    refine lv_icmp_eq (tgt := 26) hX hB dX5_read_21 (by decide) (fun c2 => ?_) (fun c2 => ?_)
    · rw [show zrd ft L p ch = (1, p + 1) from if_pos ⟨h1, c2⟩]
      refine lv_aload_n hX hB dX5_read_26 rfl (lv_at hl 0 rfl) ?_
      refine lv_dup hX hB dX5_read_27 rfl ?_
      refine fg_X5_29 C hP 0 rfl rfl dX5_read_28 ?_
      refine lv_iconst (v := 1) hX hB dX5_read_31 (by decide) ?_
      refine z_iadd (v := nI (p + 1)) C dX5_read_32 (zi_add (zi_i p) (zlit 1)) ?_
      refine fp_X5_29 C hP hD hS 0 rfl rfl rfl (Nat.le_of_ble_eq_true rfl) (w' := zScw cy ad a0 a1 a2 a3 L (p + 1) k ft fi fg) rfl dX5_read_33 (fun H locs hP hD hS => ?_)
      refine lv_iconst (v := 1) hX hB dX5_read_36 (by decide) ?_
      exact z_zret C hRT (zb01 (Or.inr rfl)) hP hD hS (Nat.le_of_ble_eq_true rfl) (Nat.le_of_ble_eq_true rfl) rfl rfl dX5_read_37
    · rw [show zrd ft L p ch = (0, p) from if_neg (fun z => c2 z.2)]
      refine lv_iconst (v := 0) hX hB dX5_read_24 (by decide) ?_
      exact z_zret C hRT (zb01 (Or.inl rfl)) hP hD hS (Nat.le_of_ble_eq_true rfl) (Nat.le_of_ble_eq_true rfl) rfl rfl dX5_read_25
set_option maxHeartbeats 4000000 in
set_option maxRecDepth 100000 in
theorem c_X5_isDigitAhead (l : Launch) {E : zEn} (hE : zEok E) (D : zG) (cy : Nat → ClassId) (ad : Nat → Nat) (a0 a1 a2 a3 L p k : Nat) (ft : Nat → Int32) (fi : Nat → Option Nat) (fg : Nat → Int32) (hL : L ≤ 60) (hp : p ≤ 60) (sz : Nat) : Met l yX5_isDigitAhead (zws yX5_isDigitAhead cX5_isDigitAhead 1 (some .boolean)) { frames := 0, cells := 0, slots := 0, locals := 0 } (zPre E D cy [.ref a0] (zScw cy ad a0 a1 a2 a3 L p k ft fi fg) sz) (zQi D (zScw cy ad a0 a1 a2 a3 L p k ft fi fg) (va_A (zScw cy ad a0 a1 a2 a3 L p k ft fi fg) sz) (zda ft L p)) 0 0 (va_A (zScw cy ad a0 a1 a2 a3 L p k ft fi fg) sz) := by
  refine z_of (Qc := fun A => zQi D (zScw cy ad a0 a1 a2 a3 L p k ft fi fg) A (zda ft L p)) (by decide +kernel) (Nat.le_of_ble_eq_true rfl) rfl ?_
  intro pG eN sT mI below meth cO A ls C hRT hnm hA hP hD hS hE0 hl
  have hX := C.x
  have hB := C.b
  refine lv_aload_n hX hB dX5_isDigitAhead_0 rfl (lv_at hl 0 rfl) ?_
  refine fg_X5_29 C hP 0 rfl rfl dX5_isDigitAhead_1 ?_
  refine lv_aload_n hX hB dX5_isDigitAhead_4 rfl (lv_at hl 0 rfl) ?_
  refine fg_X5_25 C hP 0 rfl rfl dX5_isDigitAhead_5 ?_
  refine lv_icmp_ge (tgt := 43) hX hB dX5_isDigitAhead_8 (by decide) (fun c1 => ?_) (fun c1 => ?_)
  · have h1 := (nI_leI (by omega) (by omega)).mp c1
    rw [show zda ft L p = 0 from if_neg (fun z => by omega)]
    refine lv_iconst (v := 0) hX hB dX5_isDigitAhead_43 (by decide) ?_
    exact z_zret C hRT (zb01 (Or.inl rfl)) hP hD hS (Nat.le_of_ble_eq_true rfl) (Nat.le_of_ble_eq_true rfl) rfl rfl dX5_isDigitAhead_44
  · have h1 : p < L := Nat.not_le.mp (fun z => c1 ((nI_leI (by omega) (by omega)).mpr z))
    refine lv_aload_n hX hB dX5_isDigitAhead_11 rfl (lv_at hl 0 rfl) ?_
    refine fg_X5_9 C hP 0 rfl rfl dX5_isDigitAhead_12 ?_
    refine lv_aload_n hX hB dX5_isDigitAhead_15 rfl (lv_at hl 0 rfl) ?_
    refine fg_X5_29 C hP 0 rfl rfl dX5_isDigitAhead_16 ?_
    refine z_cald C hP 1 rfl (k := p) (zi_i p) (by omega) (by decide) (v := ft p) rfl dX5_isDigitAhead_19 ?_
    refine lv_bipush (v := 48) hX hB dX5_isDigitAhead_20 (by decide) ?_
    refine lv_icmp_lt (tgt := 43) hX hB dX5_isDigitAhead_22 (by decide) (fun c2 => ?_) (fun c2 => ?_)
    · rw [show zda ft L p = 0 from if_neg (fun z => absurd z.2.1 (Int32.not_le.mpr c2))]
      refine lv_iconst (v := 0) hX hB dX5_isDigitAhead_43 (by decide) ?_
      exact z_zret C hRT (zb01 (Or.inl rfl)) hP hD hS (Nat.le_of_ble_eq_true rfl) (Nat.le_of_ble_eq_true rfl) rfl rfl dX5_isDigitAhead_44
    · refine lv_aload_n hX hB dX5_isDigitAhead_25 rfl (lv_at hl 0 rfl) ?_
      refine fg_X5_9 C hP 0 rfl rfl dX5_isDigitAhead_26 ?_
      refine lv_aload_n hX hB dX5_isDigitAhead_29 rfl (lv_at hl 0 rfl) ?_
      refine fg_X5_29 C hP 0 rfl rfl dX5_isDigitAhead_30 ?_
      refine z_cald C hP 1 rfl (k := p) (zi_i p) (by omega) (by decide) (v := ft p) rfl dX5_isDigitAhead_33 ?_
      refine lv_bipush (v := 57) hX hB dX5_isDigitAhead_34 (by decide) ?_
      refine lv_icmp_gt (tgt := 43) hX hB dX5_isDigitAhead_36 (by decide) (fun c3 => ?_) (fun c3 => ?_)
      · rw [show zda ft L p = 0 from if_neg (fun z => absurd z.2.2 (Int32.not_le.mpr c3))]
        refine lv_iconst (v := 0) hX hB dX5_isDigitAhead_43 (by decide) ?_
        exact z_zret C hRT (zb01 (Or.inl rfl)) hP hD hS (Nat.le_of_ble_eq_true rfl) (Nat.le_of_ble_eq_true rfl) rfl rfl dX5_isDigitAhead_44
      · rw [show zda ft L p = 1 from if_pos ⟨h1, Int32.not_lt.mp c2, Int32.not_lt.mp c3⟩]
        refine lv_iconst (v := 1) hX hB dX5_isDigitAhead_39 (by decide) ?_
        refine lv_goto (tgt := 44) hX hB dX5_isDigitAhead_40 (by decide) ?_
        exact z_zret C hRT (zb01 (Or.inr rfl)) hP hD hS (Nat.le_of_ble_eq_true rfl) (Nat.le_of_ble_eq_true rfl) rfl rfl dX5_isDigitAhead_44
set_option maxHeartbeats 4000000 in
set_option maxRecDepth 100000 in
theorem c_X5_readWord (l : Launch) {E : zEn} (hE : zEok E) (D : zG) (cy : Nat → ClassId) (hOB : zOutB E) {ad adK adV : Nat → Nat} (hOC : zOutC E ad adK adV) (a0 a1 a2 a3 L p0 k : Nat) (ft : Nat → Int32) (fi : Nat → Option Nat) (fg : Nat → Int32) (i : Nat) (hi : i < 8) (hL : L ≤ 60) (hp0 : p0 ≤ 60) (sz : Nat) : Met l yX5_readWord (zws yX5_readWord cX5_readWord 3 (some .boolean)) { frames := 4, cells := 0, slots := 0, locals := 170 } (zPre E D cy [.ref a0, .ref (adK i)] (zScw cy ad a0 a1 a2 a3 L p0 k ft fi fg) sz) (zQi D (zScw cy ad a0 a1 a2 a3 L (zrw ft L i 8 0 p0).2 k ft fi fg) (va_A (zScw cy ad a0 a1 a2 a3 L p0 k ft fi fg) sz) ((zrw ft L i 8 0 p0).1)) 0 0 (va_A (zScw cy ad a0 a1 a2 a3 L p0 k ft fi fg) sz) := by
  refine z_of (Qc := fun A => zQi D (zScw cy ad a0 a1 a2 a3 L (zrw ft L i 8 0 p0).2 k ft fi fg) A ((zrw ft L i 8 0 p0).1)) (by decide +kernel) (Nat.le_of_ble_eq_true rfl) rfl ?_
  intro pG eN sT mI below meth cO A ls C hRT hnm hA hP hD hS hE0 hl
  have hX := C.x
  have hB := C.b
  obtain ⟨_, _, _, hstr, _⟩ := hOC _ _ _ hE0
  have hl7 := zln_le i hi
  refine lv_iconst (v := 0) hX hB dX5_readWord_0 (by decide) ?_
  refine lv_istore_n (lv' := [(2, .int (nI 0)), (0, .ref a0), (1, .ref (adK i))]) hX hB dX5_readWord_1 rfl hl (by decide) rfl (fun ls hl => ?_)
  have loop : ∀ (f j p : Nat), zln i - j < f → j ≤ zln i → p ≤ 60 → zrw ft L i f j p = zrw ft L i 8 0 p0 → ∀ (H : Heap) (locs : List Loc), va_P D vwCl (zScw cy ad a0 a1 a2 a3 L p k ft fi fg) H → va_D A (zScw cy ad a0 a1 a2 a3 L p k ft fi fg) → va_S A sT.heap H locs → ∀ (ls : Array Slot), lv_has ls 3 [(2, .int (nI j)), (0, .ref a0), (1, .ref (adK i))] → W pG l eN { frames := 4, cells := 0, slots := 0, locals := 170 } sT mI ([.ref a0, .ref (adK i)] : List Value).toArray below meth cO H locs 0 0 (MQ below (zQi D (zScw cy ad a0 a1 a2 a3 L (zrw ft L i 8 0 p0).2 k ft fi fg) A ((zrw ft L i 8 0 p0).1)) ([.ref a0, .ref (adK i)] : List Value).toArray sT 0 0 A) (F0 mI 2 ls []) := by
    intro f
    induction f with
    | zero => intro j p h; omega
    | succ f ih =>
      intro j p hf hj hp hz H locs hP hD hS ls hl
      refine lv_iload_n hX hB dX5_readWord_2 rfl (lv_at hl 0 rfl) ?_
      refine lv_aload_n hX hB dX5_readWord_3 rfl (lv_at hl 2 rfl) ?_
      refine z_gon1 (z_runVo (isC := []) (Qc := fun A => zQi D [] A (nI (zln i))) (c_J0_length l hE D cy hOB hOC i hi) hE C zs_X5_71 ⟨Nat.le_of_ble_eq_true rfl, Nat.le_of_ble_eq_true rfl⟩ hP hD hS hA hE0 rfl (by decide) (vk_recv hstr hi hS) rfl hl.1 (Nat.le_of_ble_eq_true rfl) rfl dX5_readWord_4 ⟨Nat.le_of_ble_eq_true rfl, Nat.le_of_ble_eq_true rfl⟩) hP hD hS hA (fun H locs hP hD hS => ?_)
      refine lv_icmp_ge (tgt := 30) hX hB dX5_readWord_7 (by decide) (fun c1 => ?_) (fun c1 => ?_)
      · have h1 := (nI_leI (by omega) (by omega)).mp c1
        rw [← hz, show zrw ft L i (f + 1) j p = (1, p) from by rw [zrw, if_pos h1]]
        refine lv_iconst (v := 1) hX hB dX5_readWord_30 (by decide) ?_
        exact z_zret C hRT (zb01 (Or.inr rfl)) hP hD hS (Nat.le_of_ble_eq_true rfl) (Nat.le_of_ble_eq_true rfl) rfl rfl dX5_readWord_31
      · have h1 : j < zln i := Nat.not_le.mp (fun z => c1 ((nI_leI (by omega) (by omega)).mpr z))
        refine lv_aload_n hX hB dX5_readWord_10 rfl (lv_at hl 1 rfl) ?_
        refine lv_aload_n hX hB dX5_readWord_11 rfl (lv_at hl 2 rfl) ?_
        refine lv_iload_n hX hB dX5_readWord_12 rfl (lv_at hl 0 rfl) ?_
        refine z_gon1 (z_runVo (isC := []) (Qc := fun A => zQi D [] A (zch i j)) (c_J0_charAt l hE D cy hOB hOC i j hi h1) hE C zs_X5_74 ⟨Nat.le_of_ble_eq_true rfl, Nat.le_of_ble_eq_true rfl⟩ hP hD hS hA hE0 rfl (by decide) (vk_recv hstr hi hS) rfl hl.1 (Nat.le_of_ble_eq_true rfl) rfl dX5_readWord_13 ⟨Nat.le_of_ble_eq_true rfl, Nat.le_of_ble_eq_true rfl⟩) hP hD hS hA (fun H locs hP hD hS => ?_)
        refine z_callVi (isC := [0, 1, 2, 3]) (isR := []) (isO := [0, 1, 2, 3]) (zrd ft L p (zch i j)) (fun o => zScw cy ad a0 a1 a2 a3 L o.2 k ft fi fg) (fun o => zScw cy ad a0 a1 a2 a3 L o.2 k ft fi fg) (fun o => o.1) (c_X5_read l hE D cy ad a0 a1 a2 a3 L p k ft fi fg (zch i j) hL hp) hE C zs_X5_39 ⟨Nat.le_of_ble_eq_true rfl, Nat.le_of_ble_eq_true rfl⟩ hP hD hS hA hE0 ⟨rfl, rfl, rfl, by decide, rfl, rfl, rfl⟩ 0 rfl rfl rfl rfl hl.1 (Nat.le_of_ble_eq_true rfl) rfl dX5_readWord_16 ⟨Nat.le_of_ble_eq_true rfl, Nat.le_of_ble_eq_true rfl⟩ (fun o H locs eo hP hD hS => ?_)
        by_cases h2 : p < L ∧ ft p = zch i j
        · have e : o = (1, p + 1) := eo.trans (if_pos h2)
          subst e
          refine lv_if_ne (tgt := 24) hX hB dX5_readWord_19 (by decide) (fun _ => ?_) (fun c => absurd (show (1 : Int32) = 0 from c) (by decide))
          refine lv_iinc (v := nI (j + 1)) (lv' := [(2, .int (nI (j + 1))), (0, .ref a0), (1, .ref (adK i))]) hX hB dX5_readWord_24 hl (k := 0) rfl (zi_add (zi_i j) (zlit 1)) (by decide) rfl (fun ls hl => ?_)
          refine lv_goto (tgt := 2) hX hB dX5_readWord_27 (by decide) ?_
          exact ih (j + 1) (p + 1) (by omega) (by omega) (by omega) (by rw [← hz, zrw, if_neg (by omega), if_pos h2]) _ _ hP hD hS ls hl
        · have e : o = (0, p) := eo.trans (if_neg h2)
          subst e
          refine lv_if_ne (tgt := 24) hX hB dX5_readWord_19 (by decide) (fun c => absurd rfl c) (fun _ => ?_)
          rw [← hz, show zrw ft L i (f + 1) j p = (0, p) from by rw [zrw, if_neg (by omega), if_neg h2]]
          refine lv_iconst (v := 0) hX hB dX5_readWord_22 (by decide) ?_
          exact z_zret C hRT (zb01 (Or.inl rfl)) hP hD hS (Nat.le_of_ble_eq_true rfl) (Nat.le_of_ble_eq_true rfl) rfl rfl dX5_readWord_23
  exact loop 8 0 p0 (by omega) (by omega) hp0 rfl _ _ hP hD hS ls hl
set_option maxHeartbeats 4000000 in
set_option maxRecDepth 100000 in
theorem c_X5_commandAhead (l : Launch) {E : zEn} (hE : zEok E) (D : zG) (cy : Nat → ClassId) (hOB : zOutB E) {ad adK adV : Nat → Nat} (hOC : zOutC E ad adK adV) (a0 a1 a2 a3 L p k : Nat) (ft : Nat → Int32) (fi : Nat → Option Nat) (fg : Nat → Int32) (hL : L ≤ 60) (hp : p ≤ 60) (hft : ∀ j, j < L → zle (ft j) 127) (sz : Nat) : Met l yX5_commandAhead (zws yX5_commandAhead cX5_commandAhead 5 (some (.object "PinballScorer$Command"))) { frames := 4, cells := 0, slots := 0, locals := 200 } (zPre E D cy [.ref a0] (zScw cy ad a0 a1 a2 a3 L p k ft fi fg) sz) (zQq D (zScw cy ad a0 a1 a2 a3 L p k ft fi fg) (va_A (zScw cy ad a0 a1 a2 a3 L p k ft fi fg) sz) ((zca ft L p).map ad)) 0 0 (va_A (zScw cy ad a0 a1 a2 a3 L p k ft fi fg) sz) := by
  refine z_of (Qc := fun A => zQq D (zScw cy ad a0 a1 a2 a3 L p k ft fi fg) A ((zca ft L p).map ad)) (by decide +kernel) (Nat.le_of_ble_eq_true rfl) rfl ?_
  intro pG eN sT mI below meth cO A ls C hRT hnm hA hP hD hS hE0 hl
  have hX := C.x
  have hB := C.b
  obtain ⟨⟨tC, hZ, hT⟩, _, hcm, hstr, hnw⟩ := hOC _ _ _ hE0
  refine lv_aload_n hX hB dX5_commandAhead_0 rfl (lv_at hl 0 rfl) ?_
  refine fg_X5_29 C hP 0 rfl rfl dX5_commandAhead_1 ?_
  refine lv_aload_n hX hB dX5_commandAhead_4 rfl (lv_at hl 0 rfl) ?_
  refine fg_X5_25 C hP 0 rfl rfl dX5_commandAhead_5 ?_
  refine lv_icmp_lt (tgt := 13) hX hB dX5_commandAhead_8 (by decide) (fun c1 => ?_) (fun c1 => ?_)
  · have h1 := (nI_ltI (by omega) (by omega)).mp c1
    rw [show zca ft L p = zcf ft p 8 0 from if_pos h1]
    refine va_getsN hX hB hZ hS C.o (va_tabs rfl rfl hnw) (fun _ h => h) dX5_commandAhead_13 ?_
    refine lv_astore_n (lv' := [(1, .ref tC), (0, .ref a0)]) hX hB dX5_commandAhead_16 rfl hl (by decide) rfl (fun ls hl => ?_)
    refine lv_aload_n hX hB dX5_commandAhead_17 rfl (lv_at hl 0 rfl) ?_
    refine va_tlen hX hB hT hS (v := nI 8) rfl dX5_commandAhead_18 ?_
    refine lv_istore_n (lv' := [(2, .int (nI 8)), (1, .ref tC), (0, .ref a0)]) hX hB dX5_commandAhead_19 rfl hl (by decide) rfl (fun ls hl => ?_)
    refine lv_iconst (v := 0) hX hB dX5_commandAhead_20 (by decide) ?_
    refine lv_istore_n (lv' := [(3, .int (nI 0)), (2, .int (nI 8)), (1, .ref tC), (0, .ref a0)]) hX hB dX5_commandAhead_21 rfl hl (by decide) rfl (fun ls hl => ?_)
    have loop : ∀ (f j : Nat), j + f = 8 → zcf ft p f j = zcf ft p 8 0 → ∀ (H : Heap) (locs : List Loc), va_P D vwCl (zScw cy ad a0 a1 a2 a3 L p k ft fi fg) H → va_D A (zScw cy ad a0 a1 a2 a3 L p k ft fi fg) → va_S A sT.heap H locs → ∀ (ls : Array Slot), lv_has ls 5 [(3, .int (nI j)), (2, .int (nI 8)), (1, .ref tC), (0, .ref a0)] → W pG l eN { frames := 4, cells := 0, slots := 0, locals := 200 } sT mI ([.ref a0] : List Value).toArray below meth cO H locs 0 0 (MQ below (zQq D (zScw cy ad a0 a1 a2 a3 L p k ft fi fg) A ((zcf ft p 8 0).map ad)) ([.ref a0] : List Value).toArray sT 0 0 A) (F0 mI 22 ls []) := by
      intro f
      induction f with
      | zero =>
        intro j hj hz H locs hP hD hS ls hl
        obtain rfl : j = 8 := by omega
        rw [← hz]
        refine lv_iload_n hX hB dX5_commandAhead_22 rfl (lv_at hl 0 rfl) ?_
        refine lv_iload_n hX hB dX5_commandAhead_23 rfl (lv_at hl 1 rfl) ?_
        refine lv_icmp_ge (tgt := 61) hX hB dX5_commandAhead_24 (by decide) (fun _ => ?_) (fun c => absurd (by decide) c)
        refine lv_null hX hB dX5_commandAhead_61 ?_
        exact z_aret (v := none) C hRT (Or.inl ⟨_, rfl⟩) hP hD hS (Nat.le_of_ble_eq_true rfl) (Nat.le_of_ble_eq_true rfl) rfl rfl dX5_commandAhead_62
      | succ f ih =>
        intro j hj hz H locs hP hD hS ls hl
        have hj8 : j < 8 := by omega
        refine lv_iload_n hX hB dX5_commandAhead_22 rfl (lv_at hl 0 rfl) ?_
        refine lv_iload_n hX hB dX5_commandAhead_23 rfl (lv_at hl 1 rfl) ?_
        refine lv_icmp_ge (tgt := 61) hX hB dX5_commandAhead_24 (by decide) (fun c => absurd c (nI_ge hj8 (by decide))) (fun _ => ?_)
        refine lv_aload_n hX hB dX5_commandAhead_27 rfl (lv_at hl 2 rfl) ?_
        refine lv_iload_n hX hB dX5_commandAhead_28 rfl (lv_at hl 0 rfl) ?_
        refine vb_tq hX hB hT hS (vp_in_nI hj8 (by decide)) (v := .ref (ad j)) (by rw [nI_clamp (by omega)]) dX5_commandAhead_29 ?_
        refine lv_astore (lv' := [(4, .ref (ad j)), (3, .int (nI j)), (2, .int (nI 8)), (1, .ref tC), (0, .ref a0)]) hX hB dX5_commandAhead_30 hl (by decide) rfl (fun ls hl => ?_)
        refine lv_aload hX hB dX5_commandAhead_32 (lv_at hl 0 rfl) ?_
        refine vk_getf hX hB (hcm j hj8).2.2.1 hS C.o (C.ts _ zm1298) (fun _ h => h) dX5_commandAhead_34 ?_
        refine lv_aload_n hX hB dX5_commandAhead_37 rfl (lv_at hl 4 rfl) ?_
        refine fg_X5_9 C hP 0 rfl rfl dX5_commandAhead_38 ?_
        refine lv_aload_n hX hB dX5_commandAhead_41 rfl (lv_at hl 4 rfl) ?_
        refine fg_X5_29 C hP 0 rfl rfl dX5_commandAhead_42 ?_
        refine z_cald C hP 1 rfl (k := p) (zi_i p) (by omega) (by decide) (v := ft p) rfl dX5_commandAhead_45 ?_
        refine z_gon (T := Int32) 0 (Rl := fun r : Int32 => r = 0 ↔ zch j 0 = ft p) (r0 := fun r => r) (z_runVo (isC := []) (Qc := fun A => zQir D (fun r : Int32 => r = 0 ↔ zch j 0 = ft p) (fun _ => []) (fun r => r) A) (c_J0_indexOf l hE D cy hOB hOC j hj8 (ft p) (hft p h1)) hE C zs_X5_65 ⟨Nat.le_of_ble_eq_true rfl, Nat.le_of_ble_eq_true rfl⟩ hP hD hS hA hE0 rfl (by decide) (vk_recv hstr hj8 hS) rfl hl.1 (Nat.le_of_ble_eq_true rfl) rfl dX5_commandAhead_46 ⟨Nat.le_of_ble_eq_true rfl, Nat.le_of_ble_eq_true rfl⟩) hP hD hS hA (fun o H locs ho hP hD hS => ?_)
        refine lv_if_ne (tgt := 55) hX hB dX5_commandAhead_49 (by decide) (fun c2 => ?_) (fun c2 => ?_)
        · refine lv_iinc (v := nI (j + 1)) (lv' := [(3, .int (nI (j + 1))), (2, .int (nI 8)), (1, .ref tC), (0, .ref a0)]) hX hB dX5_commandAhead_55 (lv_sub hl [1, 2, 3, 4] rfl) (k := 0) rfl (zi_add (zi_i j) (zlit 1)) (by decide) rfl (fun ls hl => ?_)
          refine lv_goto (tgt := 22) hX hB dX5_commandAhead_58 (by decide) ?_
          exact ih (j + 1) (by omega) (by rw [← hz, zcf, if_neg (fun z => c2 (ho.mpr z))]) _ _ hP hD hS ls hl
        · rw [← hz, show zcf ft p (f + 1) j = some j from by rw [zcf, if_pos (ho.mp c2)]]
          refine lv_aload hX hB dX5_commandAhead_52 (lv_at hl 0 rfl) ?_
          exact z_aret (v := some (ad j)) C hRT (Or.inl ⟨_, rfl⟩) hP hD hS (Nat.le_of_ble_eq_true rfl) (Nat.le_of_ble_eq_true rfl) rfl rfl dX5_commandAhead_54
    exact loop 8 0 rfl rfl _ _ hP hD hS ls hl
  · have h1 : ¬ p < L := fun z => c1 ((nI_ltI (by omega) (by omega)).mpr z)
    rw [show zca ft L p = none from if_neg h1]
    refine lv_null hX hB dX5_commandAhead_11 ?_
    exact z_aret (v := none) C hRT (Or.inl ⟨_, rfl⟩) hP hD hS (Nat.le_of_ble_eq_true rfl) (Nat.le_of_ble_eq_true rfl) rfl rfl dX5_commandAhead_12
