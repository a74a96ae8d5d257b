set_option maxHeartbeats 1000000 in
set_option maxRecDepth 100000 in
theorem t_X8_renderBall_e (l : Launch) {E : zEn} (hE : zEok E) (D : zG) (cy : Nat → ClassId) (o0 y0 n0 b0 g0 a0 : Nat) (t : Nat → Nat) (e1 e2 e3 e4 e5 : Int32) (a : Nat → Nat) (hL0 : l.stackTraces = false) (hOX : zOutX E) (hrun : nI (a 0) = 0) (sz : Nat) : vx_Met l yX8_renderBall (zws yX8_renderBall cX8_renderBall 1 (some .int)) { frames := 7, cells := 1, slots := 6, locals := 130 } (zPre E D cy [.ref o0] (zObj o0 (t 0) y0 n0 b0 g0 a0 e1 e2 e3 e4 e5 ++ zTab cy t a) sz) zNo (zX D (zObj o0 (t 0) y0 n0 b0 g0 a0 e1 e2 e3 e4 e5 ++ zTab cy t a) (va_A (zObj o0 (t 0) y0 n0 b0 g0 a0 e1 e2 e3 e4 e5 ++ zTab cy t a) sz) "java/lang/IllegalStateException") 1 6 (va_A (zObj o0 (t 0) y0 n0 b0 g0 a0 e1 e2 e3 e4 e5 ++ zTab cy t a) sz) := by
  refine z_ofx (XC := fun A => zX D (zObj o0 (t 0) y0 n0 b0 g0 a0 e1 e2 e3 e4 e5 ++ zTab cy t a) A "java/lang/IllegalStateException") (by decide +kernel) (Nat.le_of_ble_eq_true rfl) rfl ?_
  intro pG eN sT mI below meth cO A ls C hT hA hP hD hS hE0 hl
  have hX := C.x
  have hB := C.b
  refine lv_aload_n hX hB dX8_renderBall_0 rfl (lv_at hl 0 rfl) ?_
  exact z_callVx (isC := [0, 1, 2, 3, 4, 5, 6, 7, 8, 9, 10, 11, 12, 13]) (isR := []) (isO := [0, 1, 2, 3, 4, 5, 6, 7, 8, 9, 10, 11, 12, 13]) (wc' := (q_X8_requireGame_e cy o0 y0 n0 b0 g0 a0 (t 0) (t 1) (t 2) (t 3) (t 4) (t 5) (t 6) (t 7) (t 8) (t 9) (t 10) (t 11) (t 12) e1 e2 e3 e4 e5 (nI (a 2)) (nI (a 0)) (nI (a 1)) (nI (a 3)) (nI (a 4)) (fun j => nI (a (30 + j))) (fun j => nI (a (34 + j))) (nI (mU a)) (nI (a 6)) (nI (a 7)) (nI (a 8)) (nI (a 9)) (nI (a 10)) (nI (a 11)) (nI (a 12)) (fun j => nI (a (16 + j))) (fun j => nI (a (20 + j))) (fun j => nI (a (24 + j))) (nI (a 13)) (fun j => nI (a (46 + 3 * j))) (fun j => nI (a (46 + 3 * j + 1))) (fun j => nI (a (46 + 3 * j + 2))) (nI (a 42 + a 43 + a 44 + a 45)) (nI (a 14)) (nI (a 15)) (fun j => nI (a (42 + j)))) ()) (c_X8_requireGame_e l hE D cy hL0 hOX o0 y0 n0 b0 g0 a0 (t 0) (t 1) (t 2) (t 3) (t 4) (t 5) (t 6) (t 7) (t 8) (t 9) (t 10) (t 11) (t 12) e1 e2 e3 e4 e5 (nI (a 2)) (nI (a 0)) (nI (a 1)) (nI (a 3)) (nI (a 4)) (fun j => nI (a (30 + j))) (fun j => nI (a (34 + j))) (nI (mU a)) (nI (a 6)) (nI (a 7)) (nI (a 8)) (nI (a 9)) (nI (a 10)) (nI (a 11)) (nI (a 12)) (fun j => nI (a (16 + j))) (fun j => nI (a (20 + j))) (fun j => nI (a (24 + j))) (nI (a 13)) (fun j => nI (a (46 + 3 * j))) (fun j => nI (a (46 + 3 * j + 1))) (fun j => nI (a (46 + 3 * j + 2))) (nI (a 42 + a 43 + a 44 + a 45)) (nI (a 14)) (nI (a 15)) (fun j => nI (a (42 + j))) hrun) hE C hT zs_X8_88 ⟨Nat.le_of_ble_eq_true rfl, Nat.le_of_ble_eq_true rfl⟩ hP hD hS hA hE0 ⟨rfl, rfl, rfl, by decide, rfl, rfl, rfl⟩ 0 rfl rfl rfl rfl hl.1 (Nat.le_of_ble_eq_true rfl) rfl dX8_renderBall_1 ⟨Nat.le_of_ble_eq_true rfl, Nat.le_of_ble_eq_true rfl⟩ ⟨Nat.le_of_ble_eq_true rfl, Nat.le_of_ble_eq_true rfl⟩
section SEM
variable {l : Launch} {E : zEn} {D : zG} {cy : Nat → ClassId} {ad w t q : Nat → Nat} {s : Nat → Nat → Nat} {b : Nat} {f : Nat → va_W}
theorem zKIr_of {yw ym : MethodName} {cw cm : ByteArray} {nw nm : Nat} {hw : List (Nat × Nat × Nat × Nat)} {rm : Option FieldType} {val : Int32 → Int64} {ax : List Value} {f1 f3 : zSBt → Nat → va_W} {F F1 : Nat → Int64} {F' : Nat → UInt64} {k r : Int32} {rf1 rl1 mc1 ms1 rf2 rl2 mc2 ms2 : Nat} {Post : va_W → Prop} {Rl : zSBt → Prop} {v2 v3 v4 v5 v6 v7 v8 v9 v10 v11 : Int32} {o1 o2 o3 o4 o5 o6 o7 o8 o9 o10 o11 e1 e2 e3 e4 e5 : Int32} (hE : zEok E) (hF : f 30 = zOl cy (w 30) F) (hb : rf1 ≤ 100 ∧ rl1 ≤ 8000 ∧ rf2 ≤ 100 ∧ rl2 ≤ 8000 ∧ mc1 + mc2 ≤ 1000 ∧ ms1 + ms2 ≤ 14000)
    (hk : ∀ sz, Met l yw (zwsH yw cw nw hw) { frames := rf1, cells := mc1, slots := ms1, locals := rl1 } (zPre E D cy (.ref (w 0) :: (ax ++ [.ref (w 30)])) (zOl cy (w 30) F ++ zWl f zTl) sz) (zQir D Rl (fun x => zOl cy (w 30) F1 ++ zWl (f1 x) zTl) (fun _ => k) (va_A (zOl cy (w 30) F ++ zWl f zTl) sz)) mc1 ms1 (va_A (zOl cy (w 30) F ++ zWl f zTl) sz))
    (h20 : ∀ x, f1 x 20 = zMo w o1 o2 o3 o4 o5 o6 o7 o8 o9 o10 o11)
    (hm : ∀ x, Rl x → ∀ sz, Met l ym (zws ym cm nm rm) { frames := rf2, cells := mc2, slots := ms2, locals := rl2 } (zPre E D cy (.ref (w 20) :: ax) (zWl (cu (f1 x) 30 (zOl cy (w 30) F1)) zLs) sz) (zQi D (zWl (f3 x) zLs) (va_A (zWl (cu (f1 x) 30 (zOl cy (w 30) F1)) zLs) sz) r) mc2 ms2 (va_A (zWl (cu (f1 x) 30 (zOl cy (w 30) F1)) zLs) sz))
    (h3 : ∀ x, f3 x 20 = zMo w k v2 v3 v4 v5 v6 v7 v8 v9 v10 v11) (h30 : ∀ x, f3 x 30 = zOl cy (w 30) F1) (h31 : ∀ x, f3 x 31 = zOd cy (w 31) F') (h0 : ∀ x, f3 x 0 = zOb w t q e1 e2 e3 e4 e5) (g31 : ∀ x, f1 x 31 = zOd cy (w 31) F') (g0 : ∀ x, f1 x 0 = zOb w t q e1 e2 e3 e4 e5) (ho : k = 0 → F1 0 = val r) (hp : ∀ x, Rl x → Post (zWl (f3 x) zLs)) :
    zKIr l E D cy yw cw nw hw ym cm nm rm val ax (w 0) (w 20) (w 30) (zWl f zLs) Post := by
  have e0 : zWl f zLs = zOl cy (w 30) F ++ zWl f zTl := by
    show f 30 ++ zWl f zTl = _
    rw [hF]
  have ez : ∀ (x : zSBt) (r : List Nat), 30 ∉ r → zWl (cu (f1 x) 30 (zOl cy (w 30) F1)) r = zWl (f1 x) r := by
    intro x r
    induction r with
    | nil => intro _; rfl
    | cons a r ih =>
      intro h
      show cu (f1 x) 30 (zOl cy (w 30) F1) a ++ zWl (cu (f1 x) 30 (zOl cy (w 30) F1)) r = f1 x a ++ zWl (f1 x) r
      rw [ih (fun z => h (List.mem_cons_of_mem _ z)), cu_n (fun z => h (by rw [← z]; exact List.mem_cons_self))]
  have e2 : (fun x => zOl cy (w 30) F1 ++ zWl (f1 x) zTl) = fun x => zWl (cu (f1 x) 30 (zOl cy (w 30) F1)) zLs := by
    funext x
    show _ = cu (f1 x) 30 (zOl cy (w 30) F1) 30 ++ zWl (cu (f1 x) 30 (zOl cy (w 30) F1)) zTl
    rw [ez x zTl (by decide), cu_s]
  rw [e2] at hk
  rw [← e0] at hk
  refine ⟨Rl, k, r, fun x => zWl (cu (f1 x) 30 (zOl cy (w 30) F1)) zLs, fun x => zWl (f3 x) zLs, zMv w o1 o2 o3 o4 o5 o6 o7 o8 o9 o10 o11, zMv w k v2 v3 v4 v5 v6 v7 v8 v9 v10 v11, rf1, rl1, mc1, ms1, rf2, rl2, mc2, ms2, hb, fun x => ?_, fun x => ?_, hk, hm, fun x => zThr hE (h3 x), fun x hk0 => ⟨F1, ?_, ho hk0⟩, hp⟩
  · have e3 := congrFun e2 x
    dsimp only at e3 ⊢
    rw [← e3]
    show (zOl cy (w 30) F1 ++ (f1 x 31 ++ (f1 x 0 ++ (f1 x 20 ++ _))))[3]? = _
    rw [g31, g0, h20]
    rfl
  · show (f3 x 30 ++ (f3 x 31 ++ (f3 x 0 ++ (f3 x 20 ++ _))))[3]? = _
    rw [h30, h31, h0, h3]
    rfl
  · show (f3 x 30 ++ _)[0]? = _
    rw [h30]
    rfl
set_option maxHeartbeats 800000 in
set_option maxRecDepth 100000 in
theorem s_renderBall (hE : zEok E) (hL0 : l.stackTraces = false) (hX : zOutX E) (hN : zOutN E) (hO : zOut E) (hOB : zOutB E) {adK adV : Nat → Nat} (hOC : zOutC E ad adK adV) (hb : b + 12 ≤ 20000) (h : zAll cy ad w t q s b f) : zKI l E D cy yL_renderBall cL_renderBall 3 [(0, 8, 11, 13)] yX9_renderBall cX9_renderBall 2 (some .int) Int32.toInt64 [] (w 0) (w 20) (w 30) (zWl f zLs) (zPo cy ad w t q s (b + 12)) ∨ zKIr l E D cy yL_renderBall cL_renderBall 3 [(0, 8, 11, 13)] yX9_renderBall cX9_renderBall 2 (some .int) Int32.toInt64 [] (w 0) (w 20) (w 30) (zWl f zLs) (zPo cy ad w t q s (b + 12)) := by
  obtain ⟨a, n, nn, L, e1, v1, ⟨e2, e3, e4, e5, v3, v4, v8, v9, v10, v11, h0, h20, hx1, hx2⟩, h1, h2, h3, h4, h5, h6, h7, ⟨F, hF⟩, ⟨F', hF'⟩⟩ := h
  have hB := h1.2.2.1
  have hI := h1.2.2
  have hW := hW_of h0 hF'
  obtain ⟨X, tt, go, g1, g2, g3, g4, g5⟩ := id h5
  by_cases hr : a 0 = 1
  · have hg : zF a 0 = 1 := by show nI (a 0) = 1; rw [hr]; rfl
    have hB' := hB
    unfold zBd at hB'
    have hm5 : mU a ≤ 6 := by unfold mU; split <;> omega
    have hd := d_ball hB hr go
    have h9 := fun sz : Nat => c_X9_renderBall_ok l hE D cy (w 20) (w 21) (w 22) (w 23) (w 24) (w 25) (w 26) (w 27) (w 28) (w 29) v1 (nI n) v3 v4 e1 (nI nn) (nI L) v8 v9 v10 v11 (zF a) go hg (zle_I (show a 5 ≤ 6 by omega) (by omega)) (zle_I (show a 9 ≤ 3 by omega) (by omega)) sz
    have h8 := fun sz : Nat => c_X8_renderBall l hE D cy hOB (w 0) (w 1) (q 0) (w 3) (w 7) (w 8) t e1 e2 e3 e4 e5 a (by rw [hr]; decide) hm5 (show a 9 ≤ 3 by omega) X tt nn g3 sz
    generalize n_X9_renderBall_ok (zF a) go = o at h9 hd
    generalize n_X1_describe (nI (mU a)) (nI (a 9)) (nI (a 11)) (fun j => nI (a (16 + j))) (fun j => nI (a (24 + j))) = d at h8 hd
    obtain ⟨r, z1, z2, go'⟩ := o
    obtain ⟨tx, N⟩ := d
    obtain ⟨d1, d2, d3, d4, d5⟩ := hd
    dsimp only at d1 d2 d3 d4 d5 h8
    subst d1 d2 d3
    right
    refine zKIr_of (f1 := fun x => cu f 5 (zSBw cy (w 7) x N)) (f3 := fun x => cu (cu (cu (cu f 5 (zSBw cy (w 7) x N)) 30 (zOl cy (w 30) (vp_updL F 0 (nI N).toInt64))) 26 (zAr cy (w 26) 120 go')) 20 (zMo w 0 (nI n) v3 v4 e1 (nI N) (nI L) v8 v9 v10 v11)) hE hF ⟨by omega, by omega, by omega, by omega, by omega, by omega⟩ (k_renderBallr l hE D cy (w 0) (w 30) F hW (L_ir (ins := [0, 1, 5]) hE h8 zTl_nd (by decide) (by decide) (by rw [zWl3, h0, h1.1, g2]; rfl) (fun x => by rw [zWl3]; show f 0 ++ f 1 ++ _ = _; rw [h0, h1.1]; rfl) (fun x k _ hk => by
      simp only [List.mem_cons, List.not_mem_nil, or_false, not_or] at hk
      rw [cu_n hk.2.2]))) (fun x => h20) (fun x hx => L_i (ins := [20, 21, 26]) hE h9 zLs_nd (by decide) (by decide) ?_ ?_ ?_) (fun x => cu_s) (fun x => rfl) (fun x => hF') (fun x => h0) (fun x => hF') (fun x => h0) (fun _ => rfl) (fun x hx => ⟨_, rfl, a, n, N, L, e1, 0, ⟨e2, e3, e4, e5, v3, v4, v8, v9, v10, v11, h0, cu_s, hx1, hx2⟩, h1.go (by omega) hb ⟨rfl, rfl⟩, h2.go (by omega) hb ⟨rfl, rfl, fun j hj => ?_⟩, h3.go (by omega) hb ⟨rfl, rfl⟩, h4.go rfl, ⟨x, tx, go', by omega, rfl, hx, rfl, d4⟩, h6.go ⟨rfl, rfl, rfl, rfl⟩, h7.go ⟨rfl, rfl⟩, ⟨_, rfl⟩, ⟨F', hF'⟩⟩)
    · rw [zWl3]; show f 20 ++ f 21 ++ f 26 = _; rw [h20, h1.2.1, g4]; rfl
    · rw [zWl3]; show _ ++ f 21 ++ _ = _; rw [h1.2.1]; rfl
    · intro k _ hk
      simp only [List.mem_cons, List.not_mem_nil, or_false, not_or] at hk
      rw [cu_n hk.1, cu_n hk.2.2]
    · rw [cu_n (by omega), cu_n (by omega), cu_n (by omega), cu_n (by omega)]
  · have h00 : a 0 = 0 := by have := hB; unfold zBd at this; omega
    have hg : ¬ zF a 0 = 1 := by show ¬ nI (a 0) = 1; rw [h00]; decide
    have h9 := fun sz : Nat => c_X9_renderBall_1 l hE D cy (w 20) (w 21) (w 22) (w 23) (w 24) (w 25) (w 26) (w 27) (w 28) (w 29) v1 (nI n) v3 v4 e1 (nI nn) (nI L) v8 v9 v10 v11 (zF a) go hg sz
    left
    exact rd_of hE hb h0 h20 hx1 hx2 h1 h2 h3 h4 h5 h6 h7 hF hF' ⟨by omega, by omega, by omega, by omega, by omega, by omega⟩ (k_renderBall_e1 l hE D cy (w 0) (w 30) F hW hN hX (rc_x hE h0 h1.1 (fun sz => t_X8_renderBall_e l hE D cy (w 0) (w 1) (q 0) (w 3) (w 7) (w 8) t e1 e2 e3 e4 e5 a hL0 hX (by rw [h00]; rfl) sz))) (rm_i (ins := [20, 21, 26]) hE h9 (by decide) (by decide) (by decide) (by rw [zWl3]; show f 20 ++ f 21 ++ f 26 = _; rw [h20, h1.2.1, g4]; rfl) (by rw [zWl3]; show _ ++ f 21 ++ f 26 = _; rw [h1.2.1, g4]; rfl)) (fun hk => absurd hk (by decide))
set_option maxHeartbeats 800000 in
set_option maxRecDepth 100000 in
theorem s_renderRecords (hE : zEok E) (hL0 : l.stackTraces = false) (hX : zOutX E) (hN : zOutN E) (hO : zOut E) (hOB : zOutB E) {adK adV : Nat → Nat} (hOC : zOutC E ad adK adV) (hb : b + 12 ≤ 20000) (h : zAll cy ad w t q s b f) : zKPr l E D cy yX8_renderRecords cX8_renderRecords 1 (some .int) yX9_renderRecords cX9_renderRecords 2 (some .int) (w 0) (w 20) (zWl f zLs) (zPo cy ad w t q s (b + 12)) := by
  obtain ⟨a, n, nn, L, e1, v1, ⟨e2, e3, e4, e5, v3, v4, v8, v9, v10, v11, h0, h20, hx1, hx2⟩, h1, h2, h3, h4, h5, h6, h7, ⟨F, hF⟩, ⟨F', hF'⟩⟩ := h
  have hB := h1.2.2.1
  have hI := h1.2.2
  have hW := hW_of h0 hF'
  obtain ⟨X, tt, go, g1, g2, g3, g4, g5⟩ := id h5
  have hB' := hB
  unfold zBd at hB'
  have hR := hI.2.1
  have hrs : ∀ k, k < a 13 → a (46 + 3 * k) ≤ 99999999 ∧ a (46 + 3 * k + 1) ≤ 3 ∧ a (46 + 3 * k + 2) ≤ 99999999 := fun k hk => by
    obtain ⟨k1, k2, k3⟩ := hR k hk
    rw [show 46 + 3 * k + 1 = 47 + 3 * k by omega, show 46 + 3 * k + 2 = 48 + 3 * k by omega]
    exact ⟨by omega, k2, by omega⟩
  have hd := d_rec (show a 13 ≤ 5 by omega) hrs go
  have h9 := fun sz : Nat => c_X9_renderRecordsN l hE D cy (w 20) (w 21) (w 22) (w 23) (w 24) (w 25) (w 26) (w 27) (w 28) (w 29) v1 (nI n) v3 v4 e1 (nI nn) (nI L) v8 v9 v10 v11 (zF a) go (zle_I (show a 13 ≤ 5 by omega) (by omega)) (fun k hk => by
    rw [show zF a 13 = nI (a 13) from rfl, zn_I (by omega)] at hk
    obtain ⟨k1, k2, k3⟩ := hrs k hk
    exact ⟨zle_I k1 (by omega), zle_I k2 (by omega), zle_I k3 (by omega)⟩) sz
  have h8 := fun sz : Nat => c_X8_renderRecords l hE D cy hOB (w 0) (w 1) (q 0) (w 3) (w 7) (w 8) t e1 e2 e3 e4 e5 a (by omega) hrs X tt nn g3 sz
  generalize n_X9_renderRecords (zF a) go = o at h9 hd
  generalize n_X4_describe (nI (a 13)) (fun j => nI (a (46 + 3 * j))) (fun j => nI (a (46 + 3 * j + 1))) (fun j => nI (a (46 + 3 * j + 2))) = d at h8 hd
  obtain ⟨r, z1, z2, go'⟩ := o
  obtain ⟨tx, N⟩ := d
  obtain ⟨d1, d2, d3, d4, d5⟩ := hd
  dsimp only at d1 d2 d3 d4 d5 h8
  subst d1 d2 d3
  refine ⟨zSB tx N, nI N, fun x => zWl (cu f 5 (zSBw cy (w 7) x N)) zLs, fun x => zWl (cu (cu (cu f 5 (zSBw cy (w 7) x N)) 26 (zAr cy (w 26) 120 go')) 20 (zMo w 0 (nI n) v3 v4 e1 (nI N) (nI L) v8 v9 v10 v11)) zLs, [.ref (t 0), .ref (w 1), .ref (q 0), .int e1, .ref (w 3), .ref (w 7), .ref (w 8), .int e2, .int e3, .int e4, .int e5], zMv w v1 (nI n) v3 v4 e1 (nI nn) (nI L) v8 v9 v10 v11, _, _, _, _, _, _, _, _, ⟨by omega, by omega, by omega, by omega, by omega, by omega⟩, ?_, fun x => ?_, L_ir (ins := [0, 1, 5]) hE h8 zLs_nd (by decide) (by decide) (by rw [zWl3, h0, h1.1, g2]; rfl) (fun x => by rw [zWl3]; show f 0 ++ f 1 ++ _ = _; rw [h0, h1.1]; rfl) (fun x k _ hk => by
      simp only [List.mem_cons, List.not_mem_nil, or_false, not_or] at hk
      rw [cu_n hk.2.2]), fun x hx => L_i (ins := [20, 21, 26]) hE h9 zLs_nd (by decide) (by decide) ?_ ?_ ?_, fun x hx => ⟨_, rfl, a, n, N, L, e1, 0, ⟨e2, e3, e4, e5, v3, v4, v8, v9, v10, v11, h0, cu_s, hx1, hx2⟩, h1.go (by omega) hb ⟨rfl, rfl⟩, h2.go (by omega) hb ⟨rfl, rfl, fun j hj => ?_⟩, h3.go (by omega) hb ⟨rfl, rfl⟩, h4.go rfl, ⟨x, tx, go', by omega, rfl, hx, rfl, d4⟩, h6.go ⟨rfl, rfl, rfl, rfl⟩, h7.go ⟨rfl, rfl⟩, ⟨F, hF⟩, ⟨F', hF'⟩⟩⟩
  · show (f 30 ++ (f 31 ++ (f 0 ++ _)))[2]? = _
    rw [hF, hF', h0]
    rfl
  · show (f 30 ++ (f 31 ++ (f 0 ++ (f 20 ++ _))))[3]? = _
    rw [hF, hF', h0, h20]
    rfl
  · rw [zWl3]; show f 20 ++ f 21 ++ f 26 = _; rw [h20, h1.2.1, g4]; rfl
  · rw [zWl3]; show _ ++ f 21 ++ _ = _; rw [h1.2.1]; rfl
  · intro k _ hk
    simp only [List.mem_cons, List.not_mem_nil, or_false, not_or] at hk
    rw [cu_n hk.1, cu_n hk.2.2]
  · rw [cu_n (by omega), cu_n (by omega), cu_n (by omega)]
end SEM
