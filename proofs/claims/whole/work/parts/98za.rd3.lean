/-! the quotients; the other calls: their cells one by one -/
section RQ
variable {l : Launch} {E : zEn} {D : zG} {cy : Nat → ClassId} {ad w t q : Nat → Nat} {s : Nat → Nat → Nat} {b : Nat} {f : Nat → va_W} {a : Nat → Nat} {n nn L : Nat} {e1 e2 e3 e4 e5 v1 v3 v4 v8 v9 v10 v11 : Int32} {F : Nat → Int64} {F' : Nat → UInt64}
theorem rdd_of {yw ym : MethodName} {cw cm : ByteArray} {nw nm : Nat} {hw : List (Nat × Nat × Nat × Nat)} {F1' : Nat → UInt64} {k : Int32} {r : UInt64} {rf1 rl1 mc1 ms1 rf2 rl2 mc2 ms2 : Nat} (hE : zEok E) (hb : b + 12 ≤ 20000) (h0 : f 0 = zOb w t q e1 e2 e3 e4 e5) (h20 : f 20 = zMo w v1 (nI n) v3 v4 e1 (nI nn) (nI L) v8 v9 v10 v11) (hx1 : zRx e2 e3 v3) (hx2 : zRx e4 e5 v4) (h1 : zR1 cy w t b f a) (h2 : zR2 cy w s b f n) (h3 : zR3 cy w q b f e1) (h4 : zR4 cy w f) (h5 : zR5 cy w f nn) (h6 : zR6 cy ad w f L) (h7 : zR7 cy w f) (hF : f 30 = zOl cy (w 30) F) (hF' : f 31 = zOd cy (w 31) F') (hbd : rf1 ≤ 100 ∧ rl1 ≤ 8000 ∧ rf2 ≤ 100 ∧ rl2 ≤ 8000 ∧ mc1 + mc2 ≤ 1000 ∧ ms1 + ms2 ≤ 14000)
    (hk : ∀ sz, Met l yw (zwsH yw cw nw hw) { frames := rf1, cells := mc1, slots := ms1, locals := rl1 } (zPre E D cy [.ref (w 0), .ref (w 31)] (zOd cy (w 31) F' ++ zWl f zT2) sz) (zQi D (zOd cy (w 31) F1' ++ zWl f zT2) (va_A (zOd cy (w 31) F' ++ zWl f zT2) sz) k) mc1 ms1 (va_A (zOd cy (w 31) F' ++ zWl f zT2) sz))
    (hm : ∀ sz, Met l ym (zws ym cm nm (some .double)) { frames := rf2, cells := mc2, slots := ms2, locals := rl2 } (zPre E D cy [.ref (w 20)] (zMo w v1 (nI n) v3 v4 e1 (nI nn) (nI L) v8 v9 v10 v11 ++ zAr cy (w 21) 64 (zF a)) sz) (zQd D (zMo w k (nI n) v3 v4 e1 (nI nn) (nI L) v8 v9 v10 v11 ++ zAr cy (w 21) 64 (zF a)) (va_A (zMo w v1 (nI n) v3 v4 e1 (nI nn) (nI L) v8 v9 v10 v11 ++ zAr cy (w 21) 64 (zF a)) sz) r) mc2 ms2 (va_A (zMo w v1 (nI n) v3 v4 e1 (nI nn) (nI L) v8 v9 v10 v11 ++ zAr cy (w 21) 64 (zF a)) sz))
    (ho : k = 0 → vf_n64 r ∧ F1' 0 = r) : zKD l E D cy yw cw nw hw ym cm nm (w 0) (w 20) (w 31) (zWl f zLs) (zPo cy ad w t q s (b + 12)) := by
  refine ⟨k, r, zWl (cu f 31 (zOd cy (w 31) F1')) zLs, zWl (cu (cu f 31 (zOd cy (w 31) F1')) 20 (zMo w k (nI n) v3 v4 e1 (nI nn) (nI L) v8 v9 v10 v11)) zLs, zMv w v1 (nI n) v3 v4 e1 (nI nn) (nI L) v8 v9 v10 v11, zMv w k (nI n) v3 v4 e1 (nI nn) (nI L) v8 v9 v10 v11, rf1, rl1, mc1, ms1, rf2, rl2, mc2, ms2, hbd, ?_, ?_, zT2_k hE hF' hk, L_d (ins := [20, 21]) hE hm zLs_nd (by decide) (by decide) ?_ ?_ ?_, zThr hE cu_s, fun h => ⟨(ho h).1, F1', ?_, (ho h).2⟩, ⟨_, rfl, a, n, nn, L, e1, k, ⟨e2, e3, e4, e5, v3, v4, v8, v9, v10, v11, h0, cu_s, hx1, hx2⟩, h1.go (by omega) hb ⟨rfl, rfl⟩, h2.go (by omega) hb ⟨rfl, rfl, fun j hj => ?_⟩, h3.go (by omega) hb ⟨rfl, rfl⟩, h4.go rfl, h5.go ⟨rfl, rfl⟩, h6.go ⟨rfl, rfl, rfl, rfl⟩, h7.go ⟨rfl, rfl⟩, ⟨F, hF⟩, ⟨F1', rfl⟩⟩⟩
  · show (f 30 ++ (_ ++ (f 0 ++ (f 20 ++ _))))[3]? = _
    rw [hF, h0, h20]
    rfl
  · show (f 30 ++ (_ ++ (f 0 ++ (_ ++ _))))[3]? = _
    rw [hF, h0]
    rfl
  · rw [zWl2]
    show f 20 ++ f 21 = _
    rw [h20, h1.2.1]
  · rw [zWl2]
    show _ ++ f 21 = _
    rw [h1.2.1]
    rfl
  · intro k _ hk
    simp only [List.mem_cons, List.not_mem_nil, or_false, not_or] at hk
    rw [cu_n hk.1]
  · show (f 30 ++ (_ ++ _))[1]? = _
    rw [hF]
    rfl
  · rw [cu_n (by omega), cu_n (by omega)]
theorem rdf_of {yw ym : MethodName} {cw cm : ByteArray} {nw nm : Nat} {hw : List (Nat × Nat × Nat × Nat)} {F1' : Nat → UInt64} {k : Int32} {r : UInt32} {rf1 rl1 mc1 ms1 rf2 rl2 mc2 ms2 : Nat} (hE : zEok E) (hb : b + 12 ≤ 20000) (h0 : f 0 = zOb w t q e1 e2 e3 e4 e5) (h20 : f 20 = zMo w v1 (nI n) v3 v4 e1 (nI nn) (nI L) v8 v9 v10 v11) (hx1 : zRx e2 e3 v3) (hx2 : zRx e4 e5 v4) (h1 : zR1 cy w t b f a) (h2 : zR2 cy w s b f n) (h3 : zR3 cy w q b f e1) (h4 : zR4 cy w f) (h5 : zR5 cy w f nn) (h6 : zR6 cy ad w f L) (h7 : zR7 cy w f) (hF : f 30 = zOl cy (w 30) F) (hF' : f 31 = zOd cy (w 31) F') (hbd : rf1 ≤ 100 ∧ rl1 ≤ 8000 ∧ rf2 ≤ 100 ∧ rl2 ≤ 8000 ∧ mc1 + mc2 ≤ 1000 ∧ ms1 + ms2 ≤ 14000)
    (hk : ∀ sz, Met l yw (zwsH yw cw nw hw) { frames := rf1, cells := mc1, slots := ms1, locals := rl1 } (zPre E D cy [.ref (w 0), .ref (w 31)] (zOd cy (w 31) F' ++ zWl f zT2) sz) (zQi D (zOd cy (w 31) F1' ++ zWl f zT2) (va_A (zOd cy (w 31) F' ++ zWl f zT2) sz) k) mc1 ms1 (va_A (zOd cy (w 31) F' ++ zWl f zT2) sz))
    (hm : ∀ sz, Met l ym (zws ym cm nm (some .float)) { frames := rf2, cells := mc2, slots := ms2, locals := rl2 } (zPre E D cy [.ref (w 20)] (zMo w v1 (nI n) v3 v4 e1 (nI nn) (nI L) v8 v9 v10 v11 ++ zAr cy (w 21) 64 (zF a)) sz) (zQf D (zMo w k (nI n) v3 v4 e1 (nI nn) (nI L) v8 v9 v10 v11 ++ zAr cy (w 21) 64 (zF a)) (va_A (zMo w v1 (nI n) v3 v4 e1 (nI nn) (nI L) v8 v9 v10 v11 ++ zAr cy (w 21) 64 (zF a)) sz) r) mc2 ms2 (va_A (zMo w v1 (nI n) v3 v4 e1 (nI nn) (nI L) v8 v9 v10 v11 ++ zAr cy (w 21) 64 (zF a)) sz))
    (ho : k = 0 → vf_n64 (FP.f2d r) ∧ F1' 0 = (FP.f2d r)) : zKF l E D cy yw cw nw hw ym cm nm (w 0) (w 20) (w 31) (zWl f zLs) (zPo cy ad w t q s (b + 12)) := by
  refine ⟨k, r, zWl (cu f 31 (zOd cy (w 31) F1')) zLs, zWl (cu (cu f 31 (zOd cy (w 31) F1')) 20 (zMo w k (nI n) v3 v4 e1 (nI nn) (nI L) v8 v9 v10 v11)) zLs, zMv w v1 (nI n) v3 v4 e1 (nI nn) (nI L) v8 v9 v10 v11, zMv w k (nI n) v3 v4 e1 (nI nn) (nI L) v8 v9 v10 v11, rf1, rl1, mc1, ms1, rf2, rl2, mc2, ms2, hbd, ?_, ?_, zT2_k hE hF' hk, L_f (ins := [20, 21]) hE hm zLs_nd (by decide) (by decide) ?_ ?_ ?_, zThr hE cu_s, fun h => ⟨(ho h).1, F1', ?_, (ho h).2⟩, ⟨_, rfl, a, n, nn, L, e1, k, ⟨e2, e3, e4, e5, v3, v4, v8, v9, v10, v11, h0, cu_s, hx1, hx2⟩, h1.go (by omega) hb ⟨rfl, rfl⟩, h2.go (by omega) hb ⟨rfl, rfl, fun j hj => ?_⟩, h3.go (by omega) hb ⟨rfl, rfl⟩, h4.go rfl, h5.go ⟨rfl, rfl⟩, h6.go ⟨rfl, rfl, rfl, rfl⟩, h7.go ⟨rfl, rfl⟩, ⟨F, hF⟩, ⟨F1', rfl⟩⟩⟩
  · show (f 30 ++ (_ ++ (f 0 ++ (f 20 ++ _))))[3]? = _
    rw [hF, h0, h20]
    rfl
  · show (f 30 ++ (_ ++ (f 0 ++ (_ ++ _))))[3]? = _
    rw [hF, h0]
    rfl
  · rw [zWl2]
    show f 20 ++ f 21 = _
    rw [h20, h1.2.1]
  · rw [zWl2]
    show _ ++ f 21 = _
    rw [h1.2.1]
    rfl
  · intro k _ hk
    simp only [List.mem_cons, List.not_mem_nil, or_false, not_or] at hk
    rw [cu_n hk.1]
  · show (f 30 ++ (_ ++ _))[1]? = _
    rw [hF]
    rfl
  · rw [cu_n (by omega), cu_n (by omega)]
variable {y : MethodName} {ws : List Cond} {rm : Room} {av : List Value} {mc ms : Nat}
theorem rcT_i {X : va_W} {r : UInt64} (hE : zEok E) (h0 : f 0 = zOb w t q e1 e2 e3 e4 e5) (h1 : f 1 = X) (hM : ∀ sz, Met l y ws rm (zPre E D cy av (zObj (w 0) (t 0) (w 1) (q 0) (w 3) (w 7) (w 8) e1 e2 e3 e4 e5 ++ X) sz) (zQd D (zObj (w 0) (t 0) (w 1) (q 0) (w 3) (w 7) (w 8) e1 e2 e3 e4 e5 ++ X) (va_A (zObj (w 0) (t 0) (w 1) (q 0) (w 3) (w 7) (w 8) e1 e2 e3 e4 e5 ++ X) sz) r) mc ms (va_A (zObj (w 0) (t 0) (w 1) (q 0) (w 3) (w 7) (w 8) e1 e2 e3 e4 e5 ++ X) sz)) (sz : Nat) : Met l y ws rm (zPre E D cy av (zWl f zT2) sz) (zQd D (zWl f zT2) (va_A (zWl f zT2) sz) r) mc ms (va_A (zWl f zT2) sz) :=
  L_d (ins := [0, 1]) hE hM (by decide) (by decide) (by decide) (by rw [zWl2, h0, h1]; rfl) (by rw [zWl2, h0, h1]; rfl) (fun _ _ _ => rfl) sz
theorem rcT_f {X : va_W} {r : UInt32} (hE : zEok E) (h0 : f 0 = zOb w t q e1 e2 e3 e4 e5) (h1 : f 1 = X) (hM : ∀ sz, Met l y ws rm (zPre E D cy av (zObj (w 0) (t 0) (w 1) (q 0) (w 3) (w 7) (w 8) e1 e2 e3 e4 e5 ++ X) sz) (zQf D (zObj (w 0) (t 0) (w 1) (q 0) (w 3) (w 7) (w 8) e1 e2 e3 e4 e5 ++ X) (va_A (zObj (w 0) (t 0) (w 1) (q 0) (w 3) (w 7) (w 8) e1 e2 e3 e4 e5 ++ X) sz) r) mc ms (va_A (zObj (w 0) (t 0) (w 1) (q 0) (w 3) (w 7) (w 8) e1 e2 e3 e4 e5 ++ X) sz)) (sz : Nat) : Met l y ws rm (zPre E D cy av (zWl f zT2) sz) (zQf D (zWl f zT2) (va_A (zWl f zT2) sz) r) mc ms (va_A (zWl f zT2) sz) :=
  L_f (ins := [0, 1]) hE hM (by decide) (by decide) (by decide) (by rw [zWl2, h0, h1]; rfl) (by rw [zWl2, h0, h1]; rfl) (fun _ _ _ => rfl) sz
theorem rcT_x {X : va_W} {E0 : String} (hE : zEok E) (h0 : f 0 = zOb w t q e1 e2 e3 e4 e5) (h1 : f 1 = X) (hM : ∀ sz, vx_Met l y ws rm (zPre E D cy av (zObj (w 0) (t 0) (w 1) (q 0) (w 3) (w 7) (w 8) e1 e2 e3 e4 e5 ++ X) sz) zNo (zX D (zObj (w 0) (t 0) (w 1) (q 0) (w 3) (w 7) (w 8) e1 e2 e3 e4 e5 ++ X) (va_A (zObj (w 0) (t 0) (w 1) (q 0) (w 3) (w 7) (w 8) e1 e2 e3 e4 e5 ++ X) sz) E0) mc ms (va_A (zObj (w 0) (t 0) (w 1) (q 0) (w 3) (w 7) (w 8) e1 e2 e3 e4 e5 ++ X) sz)) (sz : Nat) : vx_Met l y ws rm (zPre E D cy av (zWl f zT2) sz) zNo (zX D (zWl f zT2) (va_A (zWl f zT2) sz) E0) mc ms (va_A (zWl f zT2) sz) :=
  L_x (ins := [0, 1]) hE hM (by decide) (by decide) (by decide) (by rw [zWl2, h0, h1]; rfl) (by rw [zWl2, h0, h1]; rfl) (fun _ _ _ => rfl) sz
end RQ
