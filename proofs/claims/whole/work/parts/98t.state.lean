/-! the whole world of the law, by chunks; class and reference agree -/
def cu (f : Nat → va_W) (k : Nat) (x : va_W) : Nat → va_W := fun j => if j = k then x else f j
theorem cu_s {f : Nat → va_W} {k : Nat} {x : va_W} : cu f k x k = x := if_pos rfl
theorem cu_n {f : Nat → va_W} {k j : Nat} {x : va_W} (h : j ≠ k) : cu f k x j = f j := if_neg h
abbrev zTl : List Nat := [31, 0, 20, 1, 2, 3, 4, 5, 6, 10, 11, 12, 13, 14, 15, 16, 17, 18, 21, 22, 23, 24, 25, 26, 27, 28, 29]
abbrev zLs : List Nat := 30 :: zTl
theorem zTl_nd : zTl.Nodup := by decide
theorem zLs_nd : zLs.Nodup := by decide
section LIFT
variable {l : Launch} {y : MethodName} {ws : List Cond} {rm : Room} {E : zEn} {D : zG} {cy : Nat → ClassId} {av : List Value} {f f' : Nat → va_W} {R ins : List Nat} {W0 W1 : va_W} {mc ms : Nat}
theorem L_i {r : Int32} (hE : zEok E) (h : ∀ sz, Met l y ws rm (zPre E D cy av W0 sz) (zQi D W1 (va_A W0 sz) r) mc ms (va_A W0 sz)) (hR : R.Nodup) (hi : ins.Nodup) (hs : ∀ k ∈ ins, k ∈ R) (h0 : zWl f ins = W0) (h1 : zWl f' ins = W1) (hf : ∀ k ∈ R, k ∉ ins → f' k = f k) (sz : Nat) : Met l y ws rm (zPre E D cy av (zWl f R) sz) (zQi D (zWl f' R) (va_A (zWl f R) sz) r) mc ms (va_A (zWl f R) sz) := by
  subst h0 h1
  obtain ⟨e1, e2⟩ := l_wl f f' hR hi hs hf
  exact l_i hE (h sz) e1 e2
theorem L_x {E0 : String} (hE : zEok E) (h : ∀ sz, vx_Met l y ws rm (zPre E D cy av W0 sz) zNo (zX D W1 (va_A W0 sz) E0) mc ms (va_A W0 sz)) (hR : R.Nodup) (hi : ins.Nodup) (hs : ∀ k ∈ ins, k ∈ R) (h0 : zWl f ins = W0) (h1 : zWl f' ins = W1) (hf : ∀ k ∈ R, k ∉ ins → f' k = f k) (sz : Nat) : vx_Met l y ws rm (zPre E D cy av (zWl f R) sz) zNo (zX D (zWl f' R) (va_A (zWl f R) sz) E0) mc ms (va_A (zWl f R) sz) := by
  subst h0 h1
  obtain ⟨e1, e2⟩ := l_wl f f' hR hi hs hf
  exact l_x hE (h sz) e1 e2
theorem L_d {r : UInt64} (hE : zEok E) (h : ∀ sz, Met l y ws rm (zPre E D cy av W0 sz) (zQd D W1 (va_A W0 sz) r) mc ms (va_A W0 sz)) (hR : R.Nodup) (hi : ins.Nodup) (hs : ∀ k ∈ ins, k ∈ R) (h0 : zWl f ins = W0) (h1 : zWl f' ins = W1) (hf : ∀ k ∈ R, k ∉ ins → f' k = f k) (sz : Nat) : Met l y ws rm (zPre E D cy av (zWl f R) sz) (zQd D (zWl f' R) (va_A (zWl f R) sz) r) mc ms (va_A (zWl f R) sz) := by
  subst h0 h1
  obtain ⟨e1, e2⟩ := l_wl f f' hR hi hs hf
  exact l_d hE (h sz) e1 e2
theorem L_f {r : UInt32} (hE : zEok E) (h : ∀ sz, Met l y ws rm (zPre E D cy av W0 sz) (zQf D W1 (va_A W0 sz) r) mc ms (va_A W0 sz)) (hR : R.Nodup) (hi : ins.Nodup) (hs : ∀ k ∈ ins, k ∈ R) (h0 : zWl f ins = W0) (h1 : zWl f' ins = W1) (hf : ∀ k ∈ R, k ∉ ins → f' k = f k) (sz : Nat) : Met l y ws rm (zPre E D cy av (zWl f R) sz) (zQf D (zWl f' R) (va_A (zWl f R) sz) r) mc ms (va_A (zWl f R) sz) := by
  subst h0 h1
  obtain ⟨e1, e2⟩ := l_wl f f' hR hi hs hf
  exact l_f hE (h sz) e1 e2
end LIFT
theorem zWl1 (f : Nat → va_W) (i : Nat) : zWl f [i] = f i := List.append_nil _
theorem zWl2 (f : Nat → va_W) (i j : Nat) : zWl f [i, j] = f i ++ f j := by simp [zWl]
theorem zWl3 (f : Nat → va_W) (i j k : Nat) : zWl f [i, j, k] = f i ++ f j ++ f k := by simp [zWl]
theorem zWl4 (f : Nat → va_W) (i j k m : Nat) : zWl f [i, j, k, m] = f i ++ f j ++ f k ++ f m := by simp [zWl]
theorem zWl5 (f : Nat → va_W) (i j k m n : Nat) : zWl f [i, j, k, m, n] = f i ++ f j ++ f k ++ f m ++ f n := by simp [zWl]
/-! the chunks -/
def zOb (w t q : Nat → Nat) (e1 e2 e3 e4 e5 : Int32) : va_W := zObj (w 0) (t 0) (w 1) (q 0) (w 3) (w 7) (w 8) e1 e2 e3 e4 e5
def zMv (w : Nat → Nat) (v1 v2 v3 v4 v5 v6 v7 v8 v9 v10 v11 : Int32) : List Value := [.ref (w 21), .ref (w 22), .ref (w 23), .ref (w 24), .ref (w 25), .int v1, .int v2, .int v3, .int v4, .int v5, .ref (w 26), .int v6, .ref (w 27), .ref (w 28), .ref (w 29), .int v7, .int v8, .int v9, .int v10, .int v11]
def zMo (w : Nat → Nat) (v1 v2 v3 v4 v5 v6 v7 v8 v9 v10 v11 : Int32) : va_W := [(w 20, .inr (11, zMv w v1 v2 v3 v4 v5 v6 v7 v8 v9 v10 v11))]
def zAr (cy : Nat → ClassId) (h n : Nat) (g : Nat → Int32) : va_W := [(h, .inl (cy 0, n, .inl g))]
def zBl (cy : Nat → ClassId) (w : Nat → Nat) (u1 u2 u3 u4 u5 u6 u7 u8 : Int32) (fl fb fd : Nat → Int32) : va_W := [(w 3, .inr (4, [.int u1, .ref (w 4), .ref (w 5), .ref (w 6), .int u2, .int u3, .int u4, .int u5, .int u6, .int u7, .int u8])), (w 4, .inl (cy 1, 4, .inl fl)), (w 5, .inl (cy 0, 3, .inl fb)), (w 6, .inl (cy 1, 5, .inl fd))]
section REL
variable (cy : Nat → ClassId) (ad w t q : Nat → Nat) (s : Nat → Nat → Nat)
def zR1 (b : Nat) (f : Nat → va_W) (a : Nat → Nat) : Prop := f 1 = zTab cy t a ∧ f 21 = zAr cy (w 21) 64 (zF a) ∧ zInv b a
def zR2 (b : Nat) (f : Nat → va_W) (n : Nat) : Prop := ∃ (kf : Nat) (cs hs : Nat → Nat → Nat) (sa : Nat → Option Nat) (gh : Nat → Int32), kf ≤ 8 ∧ n ≤ 8 ∧ f 2 = zHis cy (w 1) (w 2) (nI kf) (nI n) sa ∧ (∀ k, k < 9 → sa k = some (s k 0)) ∧ (∀ k, k < 9 → f (10 + k) = zTab cy (s k) (cs k)) ∧ f 25 = zAr cy (w 25) 512 gh ∧ zHg n hs gh ∧ zRg kf n hs cs ∧ ∀ i, i < n → zInv b (hs i)
def zR3 (b : Nat) (f : Nat → va_W) (e1 : Int32) : Prop := (e1 = 0 ∨ e1 = 1) ∧ ∃ (a3 : Nat → Nat) (gs : Nat → Int32), f 3 = zTab cy q a3 ∧ f 24 = zAr cy (w 24) 64 gs ∧ (e1 = 1 → zInv b a3 ∧ ∀ j, j < 64 → gs j = nI (a3 j))
def zR4 (f : Nat → va_W) : Prop := ∃ (u1 u2 u3 u4 u5 u6 u7 u8 : Int32) (fl fb fd : Nat → Int32), f 4 = zBl cy w u1 u2 u3 u4 u5 u6 u7 u8 fl fb fd
def zR5 (f : Nat → va_W) (n : Nat) : Prop := ∃ (x : zSBt) (tt go : Nat → Int32), n ≤ 120 ∧ f 5 = zSBw cy (w 7) x n ∧ zSB tt n x ∧ f 26 = zAr cy (w 26) 120 go ∧ ∀ j, j < n → go j = tt j
def zR6 (f : Nat → va_W) (L : Nat) : Prop := ∃ (p k : Nat) (ft : Nat → Int32) (fi : Nat → Option Nat) (fg gi gk gn : Nat → Int32), L ≤ 60 ∧ f 6 = zScw cy ad (w 8) (w 9) (w 10) (w 11) L p k ft fi fg ∧ f 27 = zAr cy (w 27) 60 gi ∧ f 28 = zAr cy (w 28) 32 gk ∧ f 29 = zAr cy (w 29) 32 gn ∧ ∀ j, j < L → gi j = ft j ∧ zle (ft j) 127
def zR7 (f : Nat → va_W) : Prop := ∃ (gb ga : Nat → Int32), f 22 = zAr cy (w 22) 64 gb ∧ f 23 = zAr cy (w 23) 64 ga
def zR8 (f : Nat → va_W) : Prop := (∃ F, f 30 = zOl cy (w 30) F) ∧ ∃ F, f 31 = zOd cy (w 31) F
def zRx (x y v : Int32) : Prop := (x = 0 ∧ v = -1) ∨ (x = 1 ∧ v = y ∧ ∃ n : Nat, n ≤ 60 ∧ y = nI n)
def zR0 (f : Nat → va_W) (n nn L : Nat) (e1 v1 : Int32) : Prop := ∃ (e2 e3 e4 e5 v3 v4 v8 v9 v10 v11 : Int32), f 0 = zOb w t q e1 e2 e3 e4 e5 ∧ f 20 = zMo w v1 (nI n) v3 v4 e1 (nI nn) (nI L) v8 v9 v10 v11 ∧ zRx e2 e3 v3 ∧ zRx e4 e5 v4
def zAll (b : Nat) (f : Nat → va_W) : Prop := ∃ (a : Nat → Nat) (n nn L : Nat) (e1 v1 : Int32), zR0 w t q f n nn L e1 v1 ∧ zR1 cy w t b f a ∧ zR2 cy w s b f n ∧ zR3 cy w q b f e1 ∧ zR4 cy w f ∧ zR5 cy w f nn ∧ zR6 cy ad w f L ∧ zR7 cy w f ∧ zR8 cy w f
end REL
section RELP
variable {cy : Nat → ClassId} {ad w t q : Nat → Nat} {s : Nat → Nat → Nat} {b b' : Nat} {f f' : Nat → va_W} {a : Nat → Nat} {n nn L : Nat} {e1 v1 : Int32}
theorem zR1.go (h : zR1 cy w t b f a) (hb : b ≤ b') (hb' : b' ≤ 20000) (e : f' 1 = f 1 ∧ f' 21 = f 21) : zR1 cy w t b' f' a := ⟨e.1.trans h.1, e.2.trans h.2.1, in_up h.2.2 hb hb'⟩
theorem zR2.go (h : zR2 cy w s b f n) (hb : b ≤ b') (hb' : b' ≤ 20000) (e : f' 2 = f 2 ∧ f' 25 = f 25 ∧ ∀ k, k < 9 → f' (10 + k) = f (10 + k)) : zR2 cy w s b' f' n := by
  obtain ⟨kf, cs, hs, sa, gh, h1, h2, h3, h4, h5, h6, h7, h8, h9⟩ := h
  exact ⟨kf, cs, hs, sa, gh, h1, h2, e.1.trans h3, h4, fun k hk => (e.2.2 k hk).trans (h5 k hk), e.2.1.trans h6, h7, h8, fun i hi => in_up (h9 i hi) hb hb'⟩
theorem zR3.go (h : zR3 cy w q b f e1) (hb : b ≤ b') (hb' : b' ≤ 20000) (e : f' 3 = f 3 ∧ f' 24 = f 24) : zR3 cy w q b' f' e1 := by
  obtain ⟨h0, a3, gs, h1, h2, h3⟩ := h
  exact ⟨h0, a3, gs, e.1.trans h1, e.2.trans h2, fun he => ⟨in_up (h3 he).1 hb hb', (h3 he).2⟩⟩
theorem zR4.go (h : zR4 cy w f) (e : f' 4 = f 4) : zR4 cy w f' := by
  obtain ⟨u1, u2, u3, u4, u5, u6, u7, u8, fl, fb, fd, h⟩ := h
  exact ⟨u1, u2, u3, u4, u5, u6, u7, u8, fl, fb, fd, e.trans h⟩
theorem zR5.go (h : zR5 cy w f nn) (e : f' 5 = f 5 ∧ f' 26 = f 26) : zR5 cy w f' nn := by
  obtain ⟨x, tt, go, h1, h2, h3, h4, h5⟩ := h
  exact ⟨x, tt, go, h1, e.1.trans h2, h3, e.2.trans h4, h5⟩
theorem zR6.go (h : zR6 cy ad w f L) (e : f' 6 = f 6 ∧ f' 27 = f 27 ∧ f' 28 = f 28 ∧ f' 29 = f 29) : zR6 cy ad w f' L := by
  obtain ⟨p, k, ft, fi, fg, gi, gk, gn, h1, h2, h3, h4, h5, h6⟩ := h
  exact ⟨p, k, ft, fi, fg, gi, gk, gn, h1, e.1.trans h2, e.2.1.trans h3, e.2.2.1.trans h4, e.2.2.2.trans h5, h6⟩
theorem zR7.go (h : zR7 cy w f) (e : f' 22 = f 22 ∧ f' 23 = f 23) : zR7 cy w f' := by
  obtain ⟨gb, ga, h1, h2⟩ := h
  exact ⟨gb, ga, e.1.trans h1, e.2.trans h2⟩
end RELP
/-! one call of the law, out of the contracts of both sides -/
section KOF
variable {l : Launch} {E : zEn} {D : zG} {cy : Nat → ClassId} {w : Nat → Nat}
theorem zThr (hE : zEok E) {f : Nat → va_W} {v1 v2 v3 v4 v5 v6 v7 v8 v9 v10 v11 : Int32} (h : f 20 = zMo w v1 v2 v3 v4 v5 v6 v7 v8 v9 v10 v11) (sz : Nat) : Met l yX9_thrown (zws yX9_thrown cX9_thrown 1 (some .int)) { frames := 0, cells := 0, slots := 0, locals := 0 } (zPre E D cy [.ref (w 20)] (zWl f zLs) sz) (zQi D (zWl f zLs) (va_A (zWl f zLs) sz) v1) 0 0 (va_A (zWl f zLs) sz) :=
  L_i (ins := [20]) hE (fun sz => c_X9_thrown l hE D cy (w 20) (w 21) (w 22) (w 23) (w 24) (w 25) (w 26) (w 27) (w 28) (w 29) v1 v2 v3 v4 v5 v6 v7 v8 v9 v10 v11 sz) zLs_nd (by decide) (by decide) ((zWl1 f 20).trans h) ((zWl1 f 20).trans h) (fun _ _ _ => rfl) sz
theorem zKI_of {yw ym : MethodName} {cw cm : ByteArray} {nw nm : Nat} {hw : List (Nat × Nat × Nat × Nat)} {rm : Option FieldType} {val : Int32 → Int64} {ax : List Value} {f f1 f2 f3 : Nat → va_W} {F F1 : Nat → Int64} {k r : Int32} {rf1 rl1 mc1 ms1 rf2 rl2 mc2 ms2 : Nat} {Post : va_W → Prop} {v2 v3 v4 v5 v6 v7 v8 v9 v10 v11 : Int32} {o1 o2 o3 o4 o5 o6 o7 o8 o9 o10 o11 : Int32} (hE : zEok E) (hF : f 30 = zOl cy (w 30) F) (hb : rf1 ≤ 100 ∧ rl1 ≤ 8000 ∧ rf2 ≤ 100 ∧ rl2 ≤ 8000 ∧ mc1 + mc2 ≤ 1000 ∧ ms1 + ms2 ≤ 14000)
    (hk : ∀ sz, Met l yw (zwsH yw cw nw hw) { frames := rf1, cells := mc1, slots := ms1, locals := rl1 } (zPre E D cy (.ref (w 0) :: (ax ++ [.ref (w 30)])) (zOl cy (w 30) F ++ zWl f zTl) sz) (zQi D (zOl cy (w 30) F1 ++ zWl f1 zTl) (va_A (zOl cy (w 30) F ++ zWl f zTl) sz) k) mc1 ms1 (va_A (zOl cy (w 30) F ++ zWl f zTl) sz))
    (h2 : f2 = cu f1 30 (zOl cy (w 30) F1)) (h20 : f1 20 = zMo w o1 o2 o3 o4 o5 o6 o7 o8 o9 o10 o11)
    (hm : ∀ sz, Met l ym (zws ym cm nm rm) { frames := rf2, cells := mc2, slots := ms2, locals := rl2 } (zPre E D cy (.ref (w 20) :: ax) (zWl f2 zLs) sz) (zQi D (zWl f3 zLs) (va_A (zWl f2 zLs) sz) r) mc2 ms2 (va_A (zWl f2 zLs) sz))
    (h3 : f3 20 = zMo w k v2 v3 v4 v5 v6 v7 v8 v9 v10 v11) (h30 : f3 30 = zOl cy (w 30) F1) (h31 : ∃ G, f3 31 = zOd cy (w 31) G) (h0 : ∃ e1 e2 e3 e4 e5 t q, f3 0 = zOb w t q e1 e2 e3 e4 e5) (g31 : ∃ G, f1 31 = zOd cy (w 31) G) (g0 : ∃ e1 e2 e3 e4 e5 t q, f1 0 = zOb w t q e1 e2 e3 e4 e5) (ho : k = 0 → F1 0 = val r) (hp : Post (zWl f3 zLs)) :
    zKI l E D cy yw cw nw hw ym cm nm rm val ax (w 0) (w 20) (w 30) (zWl f zLs) Post := by
  have e0 : zWl f zLs = zOl cy (w 30) F ++ zWl f zTl := by
    show f 30 ++ zWl f zTl = _
    rw [hF]
  have ez : ∀ (r : List Nat), 30 ∉ r → zWl f2 r = zWl f1 r := by
    intro r
    induction r with
    | nil => intro _; rfl
    | cons a r ih =>
      intro h
      show f2 a ++ zWl f2 r = f1 a ++ zWl f1 r
      rw [ih (fun z => h (List.mem_cons_of_mem _ z)), h2, cu_n (fun z => h (by rw [← z]; exact List.mem_cons_self))]
  have e2 : zOl cy (w 30) F1 ++ zWl f1 zTl = zWl f2 zLs := by
    show _ = f2 30 ++ zWl f2 zTl
    rw [ez zTl (by decide), h2, cu_s]
  obtain ⟨G31, g31⟩ := g31
  obtain ⟨e1, e2', e3, e4, e5, t, q, g0⟩ := g0
  obtain ⟨K31, k31⟩ := h31
  obtain ⟨c1, c2, c3, c4, c5, t', q', k0⟩ := h0
  refine ⟨k, r, zWl f2 zLs, zWl f3 zLs, zMv w o1 o2 o3 o4 o5 o6 o7 o8 o9 o10 o11, zMv w k v2 v3 v4 v5 v6 v7 v8 v9 v10 v11, rf1, rl1, mc1, ms1, rf2, rl2, mc2, ms2, hb, ?_, ?_, ?_, hm, zThr hE h3, fun hk0 => ⟨F1, ?_, ho hk0⟩, hp⟩
  · rw [← e2]
    show (zOl cy (w 30) F1 ++ (f1 31 ++ (f1 0 ++ (f1 20 ++ _))))[3]? = _
    rw [g31, g0, h20]
    rfl
  · show (f3 30 ++ (f3 31 ++ (f3 0 ++ (f3 20 ++ _))))[3]? = _
    rw [h30, k31, k0, h3]
    rfl
  · rw [e0, ← e2]
    exact hk
  · show (f3 30 ++ _)[0]? = _
    rw [h30]
    rfl
end KOF
